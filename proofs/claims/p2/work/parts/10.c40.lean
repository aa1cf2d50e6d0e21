set_option maxHeartbeats 100000000 in
set_option maxRecDepth 100000 in
theorem cX12_sayNumber_1 (l : Launch) (dC : Nat → ClassId) (dI : Nat → Nat → Nat) (h0 h1 h2 h3 h4 h5 h6 h7 h8 h9 h10 h11 h12 h13 h14 h15 h16 h17 : Nat) (y0 : ClassId) (sz : Nat) (x0 x1 x2 x3 x4 x5 x6 x7 x8 x9 x10 x11 x12 x13 x14 x15 x16 x17 x18 x19 x20 x21 x22 x23 x24 x25 x26 x27 x28 x29 x30 x31 x32 x33 x34 x35 x36 x37 x38 x39 x40 x41 x42 x43 x44 x45 x46 x47 x48 x49 x50 x51 x52 x53 x54 : Int32) (z0 : Int64) (f0 : Nat → Int32) (ix16 : iv x16 0 1) (ix17 : iv x17 0 40) (ix22 : iv x22 0 65535) (ix23 : iv x23 0 1) (ix24 : iv x24 0 1) (ix25 : iv x25 0 2600) (ix26 : iv x26 0 2600) (ix27 : iv x27 0 2500) (ix28 : iv x28 0 2500) (ix32 : iv x32 0 1048575) (ix33 : iv x33 0 60) (ix34 : iv x34 0 60) (ix35 : iv x35 0 1) (ix36 : iv x36 0 1) (ix37 : iv x37 0 65535) (ix42 : iv x42 0 5200) (ix43 : iv x43 0 70800) (ix47 : iv x47 0 1) (ix48 : iv x48 0 1) (ix50 : iv x50 0 95) (ix54 : iv x54 0 1) (if0 : ∀ j, iv (f0 j) (-128) 127) : Met l yX12_sayNumber (Cond.code yX12_sayNumber cX12_sayNumber 3 none :: lw_G) ({ frames := 1, cells := 0, slots := 0, locals := 21 }) (va_Pc [.ref h0, .int x0] (fun U => U.heap.size = sz ∧ va_P (dC, dI) vwCl [(h0, .inr (12, .int x1 :: .ref h1 :: .ref h2 :: .int x2 :: .int x3 :: .int x4 :: .int x5 :: .int x6 :: .int x7 :: .int x8 :: .int x9 :: .int x10 :: [.int x11, .int x12, .int x13, .int x14, .int x15, .int x16, .ref h3, .ref h4, .ref h5, .ref h6, .int x17, .int x18, .int x19, .int x20, .int x21, .int x22, .int x23, .int x24, .ref h7, .int x25, .int x26, .int x27, .int x28, .ref h8, .ref h9, .int x29, .int x30, .long z0, .int x31, .int x32, .ref h10, .ref h11, .ref h12, .ref h13, .ref h14, .int x33, .int x34, .int x35, .int x36, .int x37, .int x38, .int x39, .int x40, .int x41, .ref h15, .ref h16, .int x42, .int x43, .int x44, .int x45, .int x46, .int x47, .int x48, .int x49, .ref h17, .int x50, .int x51, .int x52, .int x53, .int x54])), (h17, .inl (y0, 100, .inl f0))] U.heap ∧ va_K (dC, dI) vwCl [(y0, .byte)] U ∧ va_D (fun _ => True) [(h0, .inr (12, .int x1 :: .ref h1 :: .ref h2 :: .int x2 :: .int x3 :: .int x4 :: .int x5 :: .int x6 :: .int x7 :: .int x8 :: .int x9 :: .int x10 :: [.int x11, .int x12, .int x13, .int x14, .int x15, .int x16, .ref h3, .ref h4, .ref h5, .ref h6, .int x17, .int x18, .int x19, .int x20, .int x21, .int x22, .int x23, .int x24, .ref h7, .int x25, .int x26, .int x27, .int x28, .ref h8, .ref h9, .int x29, .int x30, .long z0, .int x31, .int x32, .ref h10, .ref h11, .ref h12, .ref h13, .ref h14, .int x33, .int x34, .int x35, .int x36, .int x37, .int x38, .int x39, .int x40, .int x41, .ref h15, .ref h16, .int x42, .int x43, .int x44, .int x45, .int x46, .int x47, .int x48, .int x49, .ref h17, .int x50, .int x51, .int x52, .int x53, .int x54])), (h17, .inl (y0, 100, .inl f0))])) (va_Qv (fun (u : Int32 × (Nat → Int32)) => iv u.1 1 100 ∧ (∀ j, iv (u.2 j) (-128) 127) ∧ (u.1.toInt ≤ x50.toInt + 5) ∧ True) (fun (u : Int32 × (Nat → Int32)) (t : State) => va_P (dC, dI) vwCl [(h0, .inr (12, .int x1 :: .ref h1 :: .ref h2 :: .int x2 :: .int x3 :: .int x4 :: .int x5 :: .int x6 :: .int x7 :: .int x8 :: .int x9 :: .int x10 :: [.int x11, .int x12, .int x13, .int x14, .int x15, .int x16, .ref h3, .ref h4, .ref h5, .ref h6, .int x17, .int x18, .int x19, .int x20, .int x21, .int x22, .int x23, .int x24, .ref h7, .int x25, .int x26, .int x27, .int x28, .ref h8, .ref h9, .int x29, .int x30, .long z0, .int x31, .int x32, .ref h10, .ref h11, .ref h12, .ref h13, .ref h14, .int x33, .int x34, .int x35, .int x36, .int x37, .int x38, .int x39, .int x40, .int x41, .ref h15, .ref h16, .int x42, .int x43, .int x44, .int x45, .int x46, .int x47, .int x48, .int x49, .ref h17, .int u.1, .int x51, .int x52, .int x53, .int x54])), (h17, .inl (y0, 100, .inl u.2))] t.heap ∧ va_K (dC, dI) vwCl [(y0, .byte)] t ∧ va_D (va_A [(h0, .inr (12, .int x1 :: .ref h1 :: .ref h2 :: .int x2 :: .int x3 :: .int x4 :: .int x5 :: .int x6 :: .int x7 :: .int x8 :: .int x9 :: .int x10 :: [.int x11, .int x12, .int x13, .int x14, .int x15, .int x16, .ref h3, .ref h4, .ref h5, .ref h6, .int x17, .int x18, .int x19, .int x20, .int x21, .int x22, .int x23, .int x24, .ref h7, .int x25, .int x26, .int x27, .int x28, .ref h8, .ref h9, .int x29, .int x30, .long z0, .int x31, .int x32, .ref h10, .ref h11, .ref h12, .ref h13, .ref h14, .int x33, .int x34, .int x35, .int x36, .int x37, .int x38, .int x39, .int x40, .int x41, .ref h15, .ref h16, .int x42, .int x43, .int x44, .int x45, .int x46, .int x47, .int x48, .int x49, .ref h17, .int x50, .int x51, .int x52, .int x53, .int x54])), (h17, .inl (y0, 100, .inl f0))] sz) [(h0, .inr (12, .int x1 :: .ref h1 :: .ref h2 :: .int x2 :: .int x3 :: .int x4 :: .int x5 :: .int x6 :: .int x7 :: .int x8 :: .int x9 :: .int x10 :: [.int x11, .int x12, .int x13, .int x14, .int x15, .int x16, .ref h3, .ref h4, .ref h5, .ref h6, .int x17, .int x18, .int x19, .int x20, .int x21, .int x22, .int x23, .int x24, .ref h7, .int x25, .int x26, .int x27, .int x28, .ref h8, .ref h9, .int x29, .int x30, .long z0, .int x31, .int x32, .ref h10, .ref h11, .ref h12, .ref h13, .ref h14, .int x33, .int x34, .int x35, .int x36, .int x37, .int x38, .int x39, .int x40, .int x41, .ref h15, .ref h16, .int x42, .int x43, .int x44, .int x45, .int x46, .int x47, .int x48, .int x49, .ref h17, .int u.1, .int x51, .int x52, .int x53, .int x54])), (h17, .inl (y0, 100, .inl u.2))]) (va_A [(h0, .inr (12, .int x1 :: .ref h1 :: .ref h2 :: .int x2 :: .int x3 :: .int x4 :: .int x5 :: .int x6 :: .int x7 :: .int x8 :: .int x9 :: .int x10 :: [.int x11, .int x12, .int x13, .int x14, .int x15, .int x16, .ref h3, .ref h4, .ref h5, .ref h6, .int x17, .int x18, .int x19, .int x20, .int x21, .int x22, .int x23, .int x24, .ref h7, .int x25, .int x26, .int x27, .int x28, .ref h8, .ref h9, .int x29, .int x30, .long z0, .int x31, .int x32, .ref h10, .ref h11, .ref h12, .ref h13, .ref h14, .int x33, .int x34, .int x35, .int x36, .int x37, .int x38, .int x39, .int x40, .int x41, .ref h15, .ref h16, .int x42, .int x43, .int x44, .int x45, .int x46, .int x47, .int x48, .int x49, .ref h17, .int x50, .int x51, .int x52, .int x53, .int x54])), (h17, .inl (y0, 100, .inl f0))] sz)) 0 0 (va_A [(h0, .inr (12, .int x1 :: .ref h1 :: .ref h2 :: .int x2 :: .int x3 :: .int x4 :: .int x5 :: .int x6 :: .int x7 :: .int x8 :: .int x9 :: .int x10 :: [.int x11, .int x12, .int x13, .int x14, .int x15, .int x16, .ref h3, .ref h4, .ref h5, .ref h6, .int x17, .int x18, .int x19, .int x20, .int x21, .int x22, .int x23, .int x24, .ref h7, .int x25, .int x26, .int x27, .int x28, .ref h8, .ref h9, .int x29, .int x30, .long z0, .int x31, .int x32, .ref h10, .ref h11, .ref h12, .ref h13, .ref h14, .int x33, .int x34, .int x35, .int x36, .int x37, .int x38, .int x39, .int x40, .int x41, .ref h15, .ref h16, .int x42, .int x43, .int x44, .int x45, .int x46, .int x47, .int x48, .int x49, .ref h17, .int x50, .int x51, .int x52, .int x53, .int x54])), (h17, .inl (y0, 100, .inl f0))] sz) := by
  refine Met.ofW (cc := cX12_sayNumber) (maxL := 3) (ret := none) (by decide) rfl ?_
  intro p e s m args below meth c s₁ B hml hv
  obtain ⟨rfl, hsz, hP, hK, hD0⟩ := hv
  have hx := B.exec
  have hb := B.bytes
  have hr := B.returns
  have hts0 := atoms_spec (ws := Cond.code yX12_sayNumber cX12_sayNumber 3 none :: lw_G) B.pre
  have hG : ∀ w ∈ lw_G, w.before _ s = true := fun w h => hts0 w (List.mem_cons_of_mem _ h)
  have hown : s.vm.findClass RX12 = some m.cls := findClass_of_methodNamed B.named
  have hlocks := B.notSynchronized
  subst hsz
  have hD := hD0.self (sz := s.heap.size)
  generalize hAe : va_A [(h0, .inr (12, .int x1 :: .ref h1 :: .ref h2 :: .int x2 :: .int x3 :: .int x4 :: .int x5 :: .int x6 :: .int x7 :: .int x8 :: .int x9 :: .int x10 :: [.int x11, .int x12, .int x13, .int x14, .int x15, .int x16, .ref h3, .ref h4, .ref h5, .ref h6, .int x17, .int x18, .int x19, .int x20, .int x21, .int x22, .int x23, .int x24, .ref h7, .int x25, .int x26, .int x27, .int x28, .ref h8, .ref h9, .int x29, .int x30, .long z0, .int x31, .int x32, .ref h10, .ref h11, .ref h12, .ref h13, .ref h14, .int x33, .int x34, .int x35, .int x36, .int x37, .int x38, .int x39, .int x40, .int x41, .ref h15, .ref h16, .int x42, .int x43, .int x44, .int x45, .int x46, .int x47, .int x48, .int x49, .ref h17, .int x50, .int x51, .int x52, .int x53, .int x54])), (h17, .inl (y0, 100, .inl f0))] s.heap.size = A at hD ⊢
  have hA : ∀ q : Nat, s.heap.size ≤ q → A q := fun q h => by rw [← hAe]; exact Or.inr h
  have hS : va_S A s.heap s.heap [] := va_S.rf
  have hP : va_P (dC, dI) vwCl [(h0, .inr (12, .int x1 :: .ref h1 :: .ref h2 :: .int x2 :: .int x3 :: .int x4 :: .int x5 :: .int x6 :: .int x7 :: .int x8 :: .int x9 :: .int x10 :: [.int x11, .int x12, .int x13, .int x14, .int x15, .int x16, .ref h3, .ref h4, .ref h5, .ref h6, .int x17, .int x18, .int x19, .int x20, .int x21, .int x22, .int x23, .int x24, .ref h7, .int x25, .int x26, .int x27, .int x28, .ref h8, .ref h9, .int x29, .int x30, .long z0, .int x31, .int x32, .ref h10, .ref h11, .ref h12, .ref h13, .ref h14, .int x33, .int x34, .int x35, .int x36, .int x37, .int x38, .int x39, .int x40, .int x41, .ref h15, .ref h16, .int x42, .int x43, .int x44, .int x45, .int x46, .int x47, .int x48, .int x49, .ref h17, .int x50, .int x51, .int x52, .int x53, .int x54])), (h17, .inl (y0, 100, .inl f0))] s.heap := hP
  have hl := lv_entry ([.ref h0, .int x0]) (n := 3) (Nat.le_of_ble_eq_true rfl)
  rw [lg_entry_eq]
  generalize (lg_sl ([.ref h0, .int x0]) ++ List.replicate (3 - (lg_sl ([.ref h0, .int x0])).length) Slot.unset).toArray = ls at hl ⊢
  have hl : lv_has ls 3 [(0, .ref h0), (1, .int x0)] := hl
  generalize ([.ref h0, .int x0] : List Value).toArray = ar at hG ⊢
  refine wq (fun Q hQ => ?_)
  refine lv_sipush (v := 10000) hx hb dX12_sayNumber_0 (by decide) ?_
  refine lv_istore_n (lv' := [(2, .int 10000), (0, .ref h0), (1, .int x0)]) hx hb dX12_sayNumber_3 rfl hl (by decide) rfl (fun ls hl => ?_)
  refine lv_iload_n hx hb dX12_sayNumber_4 rfl (lv_at hl 0 rfl) ?_
  refine lv_iconst (v := 1) hx hb dX12_sayNumber_5 (by decide) ?_
  refine lv_icmp_le (tgt := 22) hx hb dX12_sayNumber_6 (by decide) (fun c => absurd c (by decide)) (fun _ => ?_)
  refine lv_iload_n hx hb dX12_sayNumber_9 rfl (lv_at hl 2 rfl) ?_
  refine lv_iload_n hx hb dX12_sayNumber_10 rfl (lv_at hl 0 rfl) ?_
  refine lv_icmp_ge (tgt := 22) hx hb dX12_sayNumber_11 (by decide) (fun c1 => ?_) (fun c1 => ?_)
  · skip
    have j2 : iv x0 10000 2147483647 := iv_leR (by decide : iv 10000 10000 10000) (iv_any x0) c1 (by decide)
    refine lv_iload_n hx hb dX12_sayNumber_22 rfl (lv_at hl 0 rfl) ?_
    refine lv_if_le (tgt := 47) hx hb dX12_sayNumber_23 (by decide) (fun c => absurd c (by decide)) (fun _ => ?_)
    refine lv_aload_n hx hb dX12_sayNumber_26 rfl (lv_at hl 1 rfl) ?_
    refine lv_bipush (v := 48) hx hb dX12_sayNumber_27 (by decide) ?_
    refine lv_iload_n hx hb dX12_sayNumber_29 rfl (lv_at hl 2 rfl) ?_
    refine lv_iload_n hx hb dX12_sayNumber_30 rfl (lv_at hl 0 rfl) ?_
    refine lv_idiv hx hb dX12_sayNumber_31 (by decide) ?_
    refine lv_topi (fun v3 ev3 => ?_)
    refine lv_bipush (v := 10) hx hb dX12_sayNumber_32 (by decide) ?_
    refine lv_irem hx hb dX12_sayNumber_34 (by decide) ?_
    refine lv_topi (fun v4 ev4 => ?_)
    refine lv_iadd hx hb dX12_sayNumber_35 ?_
    refine lv_topi (fun v5 ev5 => ?_)
    obtain ⟨hPc, hDc, hFc⟩ := nv_sub3 (wc := [(h0, .inr (12, .int x1 :: .ref h1 :: .ref h2 :: .int x2 :: .int x3 :: .int x4 :: .int x5 :: .int x6 :: .int x7 :: .int x8 :: .int x9 :: .int x10 :: [.int x11, .int x12, .int x13, .int x14, .int x15, .int x16, .ref h3, .ref h4, .ref h5, .ref h6, .int x17, .int x18, .int x19, .int x20, .int x21, .int x22, .int x23, .int x24, .ref h7, .int x25, .int x26, .int x27, .int x28, .ref h8, .ref h9, .int x29, .int x30, .long z0, .int x31, .int x32, .ref h10, .ref h11, .ref h12, .ref h13, .ref h14, .int x33, .int x34, .int x35, .int x36, .int x37, .int x38, .int x39, .int x40, .int x41, .ref h15, .ref h16, .int x42, .int x43, .int x44, .int x45, .int x46, .int x47, .int x48, .int x49, .ref h17, .int x50, .int x51, .int x52, .int x53, .int x54])), (h17, .inl (y0, 100, .inl f0))]) hP hD hS hA [0, 1] (by decide) rfl
    have hKc := hK.sub (tys' := [(y0, .byte)]) [0] rfl
    refine va_callv (va_runV (As := [.int v5]) (rest := []) ⟨hx, hb, hml, hown, hG⟩ (cX12_say_1 l dC dI h0 h1 h2 h3 h4 h5 h6 h7 h8 h9 h10 h11 h12 h13 h14 h15 h16 h17 y0 s.heap.size v5 x1 x2 x3 x4 x5 x6 x7 x8 x9 x10 x11 x12 x13 x14 x15 x16 x17 x18 x19 x20 x21 x22 x23 x24 x25 x26 x27 x28 x29 x30 x31 x32 x33 x34 x35 x36 x37 x38 x39 x40 x41 x42 x43 x44 x45 x46 x47 x48 x49 x50 x51 x52 x53 x54 z0 f0 ix16 ix17 ix22 ix23 ix24 ix25 ix26 ix27 ix28 ix32 ix33 ix34 ix35 ix36 ix37 ix42 ix43 ix47 ix48 (iv_w ix50 (by decide) (by decide)) ix54 if0) (cwV 1 hG (gV wd_1834 wd_1836 wp_122 wd_17 wd_1837) rfl rfl rfl (by decide +kernel) ⟨Nat.le_of_ble_eq_true rfl, Nat.le_of_ble_eq_true rfl⟩) ⟨fun a U g mk q => by obtain ⟨q0, q1, qP, qK, qD⟩ := q; exact ⟨q0, q1, qP, va_K.moved (u := U) (U := U.calling g mk a) (Vm.Alike.refl U.vm) qK, qD⟩, va_recv hKc hPc (ci := 12) (q0 := 0) rfl rfl, fun U hU hW => ⟨rfl, by rw [hU], by rw [hU]; exact hPc, va_K.moved hW.alike hKc, hDc.weaken (fun _ _ _ _ => trivial)⟩⟩ rfl rfl hl.1 rfl (lv_room (Nat.le_of_ble_eq_true rfl)) dX12_sayNumber_36 ⟨by decide, by decide⟩) hS (fun q _ h => hFc q h) hFc (fun u7 t H1 locs ht hvm hw hB hz1 hk1 hS => ?_)
    obtain ⟨u7_0, u7_1⟩ := u7
    have hw : u7_0.toInt = x50.toInt + 1 ∧ iv u7_0 1 100 ∧ (∀ j, iv (u7_1 j) (-128) 127) ∧ True := hw
    obtain ⟨lu7_0, iu7_0, iu7_1, -⟩ := hw
    have mu7_0 : iv u7_0 1 96 := by have q9 := ix50; exact ⟨by omega, by omega⟩
    obtain ⟨hP1, hK1, hD1⟩ := hB
    rw [ht] at hP1
    have hK1 := va_K.moved hvm.symm hK1
    obtain ⟨hP, hD⟩ := nv_join (wf := [(h0, .inr (12, .int x1 :: .ref h1 :: .ref h2 :: .int x2 :: .int x3 :: .int x4 :: .int x5 :: .int x6 :: .int x7 :: .int x8 :: .int x9 :: .int x10 :: [.int x11, .int x12, .int x13, .int x14, .int x15, .int x16, .ref h3, .ref h4, .ref h5, .ref h6, .int x17, .int x18, .int x19, .int x20, .int x21, .int x22, .int x23, .int x24, .ref h7, .int x25, .int x26, .int x27, .int x28, .ref h8, .ref h9, .int x29, .int x30, .long z0, .int x31, .int x32, .ref h10, .ref h11, .ref h12, .ref h13, .ref h14, .int x33, .int x34, .int x35, .int x36, .int x37, .int x38, .int x39, .int x40, .int x41, .ref h15, .ref h16, .int x42, .int x43, .int x44, .int x45, .int x46, .int x47, .int x48, .int x49, .ref h17, .int u7_0, .int x51, .int x52, .int x53, .int x54])), (h17, .inl (y0, 100, .inl u7_1))]) hP hD [0, 1] [] rfl rfl (by decide) (by decide) hk1 hFc hP1 hD1 rfl
    have hK := (hK.sub (tys' := []) [] rfl).app hK1
    generalize H1 = H at hP hS ⊢
    have hK : va_K (dC, dI) vwCl [(y0, .byte)] s := hK
    clear hKc hPc hDc hFc hP1 hD1 hK1 hk1 hz1
    refine lv_iload_n hx hb dX12_sayNumber_39 rfl (lv_at hl 0 rfl) ?_
    refine lv_bipush (v := 10) hx hb dX12_sayNumber_40 (by decide) ?_
    refine lv_idiv hx hb dX12_sayNumber_42 (by decide) ?_
    refine lv_val (y := 1000) (by decide +kernel) ?_
    refine lv_istore_n (lv' := [(2, .int 1000), (0, .ref h0), (1, .int x0)]) hx hb dX12_sayNumber_43 rfl hl (by decide) rfl (fun ls hl => ?_)
    refine lv_goto (tgt := 22) hx hb dX12_sayNumber_44 (by decide) ?_
    refine lv_iload_n hx hb dX12_sayNumber_22 rfl (lv_at hl 0 rfl) ?_
    refine lv_if_le (tgt := 47) hx hb dX12_sayNumber_23 (by decide) (fun c => absurd c (by decide)) (fun _ => ?_)
    refine lv_aload_n hx hb dX12_sayNumber_26 rfl (lv_at hl 1 rfl) ?_
    refine lv_bipush (v := 48) hx hb dX12_sayNumber_27 (by decide) ?_
    refine lv_iload_n hx hb dX12_sayNumber_29 rfl (lv_at hl 2 rfl) ?_
    refine lv_iload_n hx hb dX12_sayNumber_30 rfl (lv_at hl 0 rfl) ?_
    refine lv_idiv hx hb dX12_sayNumber_31 (by decide) ?_
    refine lv_topi (fun v8 ev8 => ?_)
    refine lv_bipush (v := 10) hx hb dX12_sayNumber_32 (by decide) ?_
    refine lv_irem hx hb dX12_sayNumber_34 (by decide) ?_
    refine lv_topi (fun v9 ev9 => ?_)
    refine lv_iadd hx hb dX12_sayNumber_35 ?_
    refine lv_topi (fun v10 ev10 => ?_)
    obtain ⟨hPc, hDc, hFc⟩ := nv_sub3 (wc := [(h0, .inr (12, .int x1 :: .ref h1 :: .ref h2 :: .int x2 :: .int x3 :: .int x4 :: .int x5 :: .int x6 :: .int x7 :: .int x8 :: .int x9 :: .int x10 :: [.int x11, .int x12, .int x13, .int x14, .int x15, .int x16, .ref h3, .ref h4, .ref h5, .ref h6, .int x17, .int x18, .int x19, .int x20, .int x21, .int x22, .int x23, .int x24, .ref h7, .int x25, .int x26, .int x27, .int x28, .ref h8, .ref h9, .int x29, .int x30, .long z0, .int x31, .int x32, .ref h10, .ref h11, .ref h12, .ref h13, .ref h14, .int x33, .int x34, .int x35, .int x36, .int x37, .int x38, .int x39, .int x40, .int x41, .ref h15, .ref h16, .int x42, .int x43, .int x44, .int x45, .int x46, .int x47, .int x48, .int x49, .ref h17, .int u7_0, .int x51, .int x52, .int x53, .int x54])), (h17, .inl (y0, 100, .inl u7_1))]) hP hD hS hA [0, 1] (by decide) rfl
    have hKc := hK.sub (tys' := [(y0, .byte)]) [0] rfl
    refine va_callv (va_runV (As := [.int v10]) (rest := []) ⟨hx, hb, hml, hown, hG⟩ (cX12_say_1 l dC dI h0 h1 h2 h3 h4 h5 h6 h7 h8 h9 h10 h11 h12 h13 h14 h15 h16 h17 y0 H.size v10 x1 x2 x3 x4 x5 x6 x7 x8 x9 x10 x11 x12 x13 x14 x15 x16 x17 x18 x19 x20 x21 x22 x23 x24 x25 x26 x27 x28 x29 x30 x31 x32 x33 x34 x35 x36 x37 x38 x39 x40 x41 x42 x43 x44 x45 x46 x47 x48 x49 u7_0 x51 x52 x53 x54 z0 u7_1 ix16 ix17 ix22 ix23 ix24 ix25 ix26 ix27 ix28 ix32 ix33 ix34 ix35 ix36 ix37 ix42 ix43 ix47 ix48 (iv_w mu7_0 (by decide) (by decide)) ix54 iu7_1) (cwV 1 hG (gV wd_1834 wd_1836 wp_122 wd_17 wd_1837) rfl rfl rfl (by decide +kernel) ⟨Nat.le_of_ble_eq_true rfl, Nat.le_of_ble_eq_true rfl⟩) ⟨fun a U g mk q => by obtain ⟨q0, q1, qP, qK, qD⟩ := q; exact ⟨q0, q1, qP, va_K.moved (u := U) (U := U.calling g mk a) (Vm.Alike.refl U.vm) qK, qD⟩, va_recv hKc hPc (ci := 12) (q0 := 0) rfl rfl, fun U hU hW => ⟨rfl, by rw [hU], by rw [hU]; exact hPc, va_K.moved hW.alike hKc, hDc.weaken (fun _ _ _ _ => trivial)⟩⟩ rfl rfl hl.1 rfl (lv_room (Nat.le_of_ble_eq_true rfl)) dX12_sayNumber_36 ⟨by decide, by decide⟩) hS (fun q _ h => hFc q h) hFc (fun u12 t H1 locs ht hvm hw hB hz1 hk1 hS => ?_)
    obtain ⟨u12_0, u12_1⟩ := u12
    have hw : u12_0.toInt = u7_0.toInt + 1 ∧ iv u12_0 1 100 ∧ (∀ j, iv (u12_1 j) (-128) 127) ∧ True := hw
    obtain ⟨lu12_0, iu12_0, iu12_1, -⟩ := hw
    have mu12_0 : iv u12_0 2 97 := by have q9 := mu7_0; exact ⟨by omega, by omega⟩
    obtain ⟨hP1, hK1, hD1⟩ := hB
    rw [ht] at hP1
    have hK1 := va_K.moved hvm.symm hK1
    obtain ⟨hP, hD⟩ := nv_join (wf := [(h0, .inr (12, .int x1 :: .ref h1 :: .ref h2 :: .int x2 :: .int x3 :: .int x4 :: .int x5 :: .int x6 :: .int x7 :: .int x8 :: .int x9 :: .int x10 :: [.int x11, .int x12, .int x13, .int x14, .int x15, .int x16, .ref h3, .ref h4, .ref h5, .ref h6, .int x17, .int x18, .int x19, .int x20, .int x21, .int x22, .int x23, .int x24, .ref h7, .int x25, .int x26, .int x27, .int x28, .ref h8, .ref h9, .int x29, .int x30, .long z0, .int x31, .int x32, .ref h10, .ref h11, .ref h12, .ref h13, .ref h14, .int x33, .int x34, .int x35, .int x36, .int x37, .int x38, .int x39, .int x40, .int x41, .ref h15, .ref h16, .int x42, .int x43, .int x44, .int x45, .int x46, .int x47, .int x48, .int x49, .ref h17, .int u12_0, .int x51, .int x52, .int x53, .int x54])), (h17, .inl (y0, 100, .inl u12_1))]) hP hD [0, 1] [] rfl rfl (by decide) (by decide) hk1 hFc hP1 hD1 rfl
    have hK := (hK.sub (tys' := []) [] rfl).app hK1
    generalize H1 = H at hP hS ⊢
    have hK : va_K (dC, dI) vwCl [(y0, .byte)] s := hK
    clear hKc hPc hDc hFc hP1 hD1 hK1 hk1 hz1
    refine lv_iload_n hx hb dX12_sayNumber_39 rfl (lv_at hl 0 rfl) ?_
    refine lv_bipush (v := 10) hx hb dX12_sayNumber_40 (by decide) ?_
    refine lv_idiv hx hb dX12_sayNumber_42 (by decide) ?_
    refine lv_val (y := 100) (by decide +kernel) ?_
    refine lv_istore_n (lv' := [(2, .int 100), (0, .ref h0), (1, .int x0)]) hx hb dX12_sayNumber_43 rfl hl (by decide) rfl (fun ls hl => ?_)
    refine lv_goto (tgt := 22) hx hb dX12_sayNumber_44 (by decide) ?_
    refine lv_iload_n hx hb dX12_sayNumber_22 rfl (lv_at hl 0 rfl) ?_
    refine lv_if_le (tgt := 47) hx hb dX12_sayNumber_23 (by decide) (fun c => absurd c (by decide)) (fun _ => ?_)
    refine lv_aload_n hx hb dX12_sayNumber_26 rfl (lv_at hl 1 rfl) ?_
    refine lv_bipush (v := 48) hx hb dX12_sayNumber_27 (by decide) ?_
    refine lv_iload_n hx hb dX12_sayNumber_29 rfl (lv_at hl 2 rfl) ?_
    refine lv_iload_n hx hb dX12_sayNumber_30 rfl (lv_at hl 0 rfl) ?_
    refine lv_idiv hx hb dX12_sayNumber_31 (by decide) ?_
    refine lv_topi (fun v13 ev13 => ?_)
    refine lv_bipush (v := 10) hx hb dX12_sayNumber_32 (by decide) ?_
    refine lv_irem hx hb dX12_sayNumber_34 (by decide) ?_
    refine lv_topi (fun v14 ev14 => ?_)
    refine lv_iadd hx hb dX12_sayNumber_35 ?_
    refine lv_topi (fun v15 ev15 => ?_)
    obtain ⟨hPc, hDc, hFc⟩ := nv_sub3 (wc := [(h0, .inr (12, .int x1 :: .ref h1 :: .ref h2 :: .int x2 :: .int x3 :: .int x4 :: .int x5 :: .int x6 :: .int x7 :: .int x8 :: .int x9 :: .int x10 :: [.int x11, .int x12, .int x13, .int x14, .int x15, .int x16, .ref h3, .ref h4, .ref h5, .ref h6, .int x17, .int x18, .int x19, .int x20, .int x21, .int x22, .int x23, .int x24, .ref h7, .int x25, .int x26, .int x27, .int x28, .ref h8, .ref h9, .int x29, .int x30, .long z0, .int x31, .int x32, .ref h10, .ref h11, .ref h12, .ref h13, .ref h14, .int x33, .int x34, .int x35, .int x36, .int x37, .int x38, .int x39, .int x40, .int x41, .ref h15, .ref h16, .int x42, .int x43, .int x44, .int x45, .int x46, .int x47, .int x48, .int x49, .ref h17, .int u12_0, .int x51, .int x52, .int x53, .int x54])), (h17, .inl (y0, 100, .inl u12_1))]) hP hD hS hA [0, 1] (by decide) rfl
    have hKc := hK.sub (tys' := [(y0, .byte)]) [0] rfl
    refine va_callv (va_runV (As := [.int v15]) (rest := []) ⟨hx, hb, hml, hown, hG⟩ (cX12_say_1 l dC dI h0 h1 h2 h3 h4 h5 h6 h7 h8 h9 h10 h11 h12 h13 h14 h15 h16 h17 y0 H.size v15 x1 x2 x3 x4 x5 x6 x7 x8 x9 x10 x11 x12 x13 x14 x15 x16 x17 x18 x19 x20 x21 x22 x23 x24 x25 x26 x27 x28 x29 x30 x31 x32 x33 x34 x35 x36 x37 x38 x39 x40 x41 x42 x43 x44 x45 x46 x47 x48 x49 u12_0 x51 x52 x53 x54 z0 u12_1 ix16 ix17 ix22 ix23 ix24 ix25 ix26 ix27 ix28 ix32 ix33 ix34 ix35 ix36 ix37 ix42 ix43 ix47 ix48 (iv_w mu12_0 (by decide) (by decide)) ix54 iu12_1) (cwV 1 hG (gV wd_1834 wd_1836 wp_122 wd_17 wd_1837) rfl rfl rfl (by decide +kernel) ⟨Nat.le_of_ble_eq_true rfl, Nat.le_of_ble_eq_true rfl⟩) ⟨fun a U g mk q => by obtain ⟨q0, q1, qP, qK, qD⟩ := q; exact ⟨q0, q1, qP, va_K.moved (u := U) (U := U.calling g mk a) (Vm.Alike.refl U.vm) qK, qD⟩, va_recv hKc hPc (ci := 12) (q0 := 0) rfl rfl, fun U hU hW => ⟨rfl, by rw [hU], by rw [hU]; exact hPc, va_K.moved hW.alike hKc, hDc.weaken (fun _ _ _ _ => trivial)⟩⟩ rfl rfl hl.1 rfl (lv_room (Nat.le_of_ble_eq_true rfl)) dX12_sayNumber_36 ⟨by decide, by decide⟩) hS (fun q _ h => hFc q h) hFc (fun u17 t H1 locs ht hvm hw hB hz1 hk1 hS => ?_)
    obtain ⟨u17_0, u17_1⟩ := u17
    have hw : u17_0.toInt = u12_0.toInt + 1 ∧ iv u17_0 1 100 ∧ (∀ j, iv (u17_1 j) (-128) 127) ∧ True := hw
    obtain ⟨lu17_0, iu17_0, iu17_1, -⟩ := hw
    have mu17_0 : iv u17_0 3 98 := by have q9 := mu12_0; exact ⟨by omega, by omega⟩
    obtain ⟨hP1, hK1, hD1⟩ := hB
    rw [ht] at hP1
    have hK1 := va_K.moved hvm.symm hK1
    obtain ⟨hP, hD⟩ := nv_join (wf := [(h0, .inr (12, .int x1 :: .ref h1 :: .ref h2 :: .int x2 :: .int x3 :: .int x4 :: .int x5 :: .int x6 :: .int x7 :: .int x8 :: .int x9 :: .int x10 :: [.int x11, .int x12, .int x13, .int x14, .int x15, .int x16, .ref h3, .ref h4, .ref h5, .ref h6, .int x17, .int x18, .int x19, .int x20, .int x21, .int x22, .int x23, .int x24, .ref h7, .int x25, .int x26, .int x27, .int x28, .ref h8, .ref h9, .int x29, .int x30, .long z0, .int x31, .int x32, .ref h10, .ref h11, .ref h12, .ref h13, .ref h14, .int x33, .int x34, .int x35, .int x36, .int x37, .int x38, .int x39, .int x40, .int x41, .ref h15, .ref h16, .int x42, .int x43, .int x44, .int x45, .int x46, .int x47, .int x48, .int x49, .ref h17, .int u17_0, .int x51, .int x52, .int x53, .int x54])), (h17, .inl (y0, 100, .inl u17_1))]) hP hD [0, 1] [] rfl rfl (by decide) (by decide) hk1 hFc hP1 hD1 rfl
    have hK := (hK.sub (tys' := []) [] rfl).app hK1
    generalize H1 = H at hP hS ⊢
    have hK : va_K (dC, dI) vwCl [(y0, .byte)] s := hK
    clear hKc hPc hDc hFc hP1 hD1 hK1 hk1 hz1
    refine lv_iload_n hx hb dX12_sayNumber_39 rfl (lv_at hl 0 rfl) ?_
    refine lv_bipush (v := 10) hx hb dX12_sayNumber_40 (by decide) ?_
    refine lv_idiv hx hb dX12_sayNumber_42 (by decide) ?_
    refine lv_val (y := 10) (by decide +kernel) ?_
    refine lv_istore_n (lv' := [(2, .int 10), (0, .ref h0), (1, .int x0)]) hx hb dX12_sayNumber_43 rfl hl (by decide) rfl (fun ls hl => ?_)
    refine lv_goto (tgt := 22) hx hb dX12_sayNumber_44 (by decide) ?_
    refine lv_iload_n hx hb dX12_sayNumber_22 rfl (lv_at hl 0 rfl) ?_
    refine lv_if_le (tgt := 47) hx hb dX12_sayNumber_23 (by decide) (fun c => absurd c (by decide)) (fun _ => ?_)
    refine lv_aload_n hx hb dX12_sayNumber_26 rfl (lv_at hl 1 rfl) ?_
    refine lv_bipush (v := 48) hx hb dX12_sayNumber_27 (by decide) ?_
    refine lv_iload_n hx hb dX12_sayNumber_29 rfl (lv_at hl 2 rfl) ?_
    refine lv_iload_n hx hb dX12_sayNumber_30 rfl (lv_at hl 0 rfl) ?_
    refine lv_idiv hx hb dX12_sayNumber_31 (by decide) ?_
    refine lv_topi (fun v18 ev18 => ?_)
    refine lv_bipush (v := 10) hx hb dX12_sayNumber_32 (by decide) ?_
    refine lv_irem hx hb dX12_sayNumber_34 (by decide) ?_
    refine lv_topi (fun v19 ev19 => ?_)
    refine lv_iadd hx hb dX12_sayNumber_35 ?_
    refine lv_topi (fun v20 ev20 => ?_)
    obtain ⟨hPc, hDc, hFc⟩ := nv_sub3 (wc := [(h0, .inr (12, .int x1 :: .ref h1 :: .ref h2 :: .int x2 :: .int x3 :: .int x4 :: .int x5 :: .int x6 :: .int x7 :: .int x8 :: .int x9 :: .int x10 :: [.int x11, .int x12, .int x13, .int x14, .int x15, .int x16, .ref h3, .ref h4, .ref h5, .ref h6, .int x17, .int x18, .int x19, .int x20, .int x21, .int x22, .int x23, .int x24, .ref h7, .int x25, .int x26, .int x27, .int x28, .ref h8, .ref h9, .int x29, .int x30, .long z0, .int x31, .int x32, .ref h10, .ref h11, .ref h12, .ref h13, .ref h14, .int x33, .int x34, .int x35, .int x36, .int x37, .int x38, .int x39, .int x40, .int x41, .ref h15, .ref h16, .int x42, .int x43, .int x44, .int x45, .int x46, .int x47, .int x48, .int x49, .ref h17, .int u17_0, .int x51, .int x52, .int x53, .int x54])), (h17, .inl (y0, 100, .inl u17_1))]) hP hD hS hA [0, 1] (by decide) rfl
    have hKc := hK.sub (tys' := [(y0, .byte)]) [0] rfl
    refine va_callv (va_runV (As := [.int v20]) (rest := []) ⟨hx, hb, hml, hown, hG⟩ (cX12_say_1 l dC dI h0 h1 h2 h3 h4 h5 h6 h7 h8 h9 h10 h11 h12 h13 h14 h15 h16 h17 y0 H.size v20 x1 x2 x3 x4 x5 x6 x7 x8 x9 x10 x11 x12 x13 x14 x15 x16 x17 x18 x19 x20 x21 x22 x23 x24 x25 x26 x27 x28 x29 x30 x31 x32 x33 x34 x35 x36 x37 x38 x39 x40 x41 x42 x43 x44 x45 x46 x47 x48 x49 u17_0 x51 x52 x53 x54 z0 u17_1 ix16 ix17 ix22 ix23 ix24 ix25 ix26 ix27 ix28 ix32 ix33 ix34 ix35 ix36 ix37 ix42 ix43 ix47 ix48 (iv_w mu17_0 (by decide) (by decide)) ix54 iu17_1) (cwV 1 hG (gV wd_1834 wd_1836 wp_122 wd_17 wd_1837) rfl rfl rfl (by decide +kernel) ⟨Nat.le_of_ble_eq_true rfl, Nat.le_of_ble_eq_true rfl⟩) ⟨fun a U g mk q => by obtain ⟨q0, q1, qP, qK, qD⟩ := q; exact ⟨q0, q1, qP, va_K.moved (u := U) (U := U.calling g mk a) (Vm.Alike.refl U.vm) qK, qD⟩, va_recv hKc hPc (ci := 12) (q0 := 0) rfl rfl, fun U hU hW => ⟨rfl, by rw [hU], by rw [hU]; exact hPc, va_K.moved hW.alike hKc, hDc.weaken (fun _ _ _ _ => trivial)⟩⟩ rfl rfl hl.1 rfl (lv_room (Nat.le_of_ble_eq_true rfl)) dX12_sayNumber_36 ⟨by decide, by decide⟩) hS (fun q _ h => hFc q h) hFc (fun u22 t H1 locs ht hvm hw hB hz1 hk1 hS => ?_)
    obtain ⟨u22_0, u22_1⟩ := u22
    have hw : u22_0.toInt = u17_0.toInt + 1 ∧ iv u22_0 1 100 ∧ (∀ j, iv (u22_1 j) (-128) 127) ∧ True := hw
    obtain ⟨lu22_0, iu22_0, iu22_1, -⟩ := hw
    have mu22_0 : iv u22_0 4 99 := by have q9 := mu17_0; exact ⟨by omega, by omega⟩
    obtain ⟨hP1, hK1, hD1⟩ := hB
    rw [ht] at hP1
    have hK1 := va_K.moved hvm.symm hK1
    obtain ⟨hP, hD⟩ := nv_join (wf := [(h0, .inr (12, .int x1 :: .ref h1 :: .ref h2 :: .int x2 :: .int x3 :: .int x4 :: .int x5 :: .int x6 :: .int x7 :: .int x8 :: .int x9 :: .int x10 :: [.int x11, .int x12, .int x13, .int x14, .int x15, .int x16, .ref h3, .ref h4, .ref h5, .ref h6, .int x17, .int x18, .int x19, .int x20, .int x21, .int x22, .int x23, .int x24, .ref h7, .int x25, .int x26, .int x27, .int x28, .ref h8, .ref h9, .int x29, .int x30, .long z0, .int x31, .int x32, .ref h10, .ref h11, .ref h12, .ref h13, .ref h14, .int x33, .int x34, .int x35, .int x36, .int x37, .int x38, .int x39, .int x40, .int x41, .ref h15, .ref h16, .int x42, .int x43, .int x44, .int x45, .int x46, .int x47, .int x48, .int x49, .ref h17, .int u22_0, .int x51, .int x52, .int x53, .int x54])), (h17, .inl (y0, 100, .inl u22_1))]) hP hD [0, 1] [] rfl rfl (by decide) (by decide) hk1 hFc hP1 hD1 rfl
    have hK := (hK.sub (tys' := []) [] rfl).app hK1
    generalize H1 = H at hP hS ⊢
    have hK : va_K (dC, dI) vwCl [(y0, .byte)] s := hK
    clear hKc hPc hDc hFc hP1 hD1 hK1 hk1 hz1
    refine lv_iload_n hx hb dX12_sayNumber_39 rfl (lv_at hl 0 rfl) ?_
    refine lv_bipush (v := 10) hx hb dX12_sayNumber_40 (by decide) ?_
    refine lv_idiv hx hb dX12_sayNumber_42 (by decide) ?_
    refine lv_val (y := 1) (by decide +kernel) ?_
    refine lv_istore_n (lv' := [(2, .int 1), (0, .ref h0), (1, .int x0)]) hx hb dX12_sayNumber_43 rfl hl (by decide) rfl (fun ls hl => ?_)
    refine lv_goto (tgt := 22) hx hb dX12_sayNumber_44 (by decide) ?_
    refine lv_iload_n hx hb dX12_sayNumber_22 rfl (lv_at hl 0 rfl) ?_
    refine lv_if_le (tgt := 47) hx hb dX12_sayNumber_23 (by decide) (fun c => absurd c (by decide)) (fun _ => ?_)
    refine lv_aload_n hx hb dX12_sayNumber_26 rfl (lv_at hl 1 rfl) ?_
    refine lv_bipush (v := 48) hx hb dX12_sayNumber_27 (by decide) ?_
    refine lv_iload_n hx hb dX12_sayNumber_29 rfl (lv_at hl 2 rfl) ?_
    refine lv_iload_n hx hb dX12_sayNumber_30 rfl (lv_at hl 0 rfl) ?_
    refine lv_idiv hx hb dX12_sayNumber_31 (by decide) ?_
    refine lv_topi (fun v23 ev23 => ?_)
    refine lv_bipush (v := 10) hx hb dX12_sayNumber_32 (by decide) ?_
    refine lv_irem hx hb dX12_sayNumber_34 (by decide) ?_
    refine lv_topi (fun v24 ev24 => ?_)
    refine lv_iadd hx hb dX12_sayNumber_35 ?_
    refine lv_topi (fun v25 ev25 => ?_)
    obtain ⟨hPc, hDc, hFc⟩ := nv_sub3 (wc := [(h0, .inr (12, .int x1 :: .ref h1 :: .ref h2 :: .int x2 :: .int x3 :: .int x4 :: .int x5 :: .int x6 :: .int x7 :: .int x8 :: .int x9 :: .int x10 :: [.int x11, .int x12, .int x13, .int x14, .int x15, .int x16, .ref h3, .ref h4, .ref h5, .ref h6, .int x17, .int x18, .int x19, .int x20, .int x21, .int x22, .int x23, .int x24, .ref h7, .int x25, .int x26, .int x27, .int x28, .ref h8, .ref h9, .int x29, .int x30, .long z0, .int x31, .int x32, .ref h10, .ref h11, .ref h12, .ref h13, .ref h14, .int x33, .int x34, .int x35, .int x36, .int x37, .int x38, .int x39, .int x40, .int x41, .ref h15, .ref h16, .int x42, .int x43, .int x44, .int x45, .int x46, .int x47, .int x48, .int x49, .ref h17, .int u22_0, .int x51, .int x52, .int x53, .int x54])), (h17, .inl (y0, 100, .inl u22_1))]) hP hD hS hA [0, 1] (by decide) rfl
    have hKc := hK.sub (tys' := [(y0, .byte)]) [0] rfl
    refine va_callv (va_runV (As := [.int v25]) (rest := []) ⟨hx, hb, hml, hown, hG⟩ (cX12_say_1 l dC dI h0 h1 h2 h3 h4 h5 h6 h7 h8 h9 h10 h11 h12 h13 h14 h15 h16 h17 y0 H.size v25 x1 x2 x3 x4 x5 x6 x7 x8 x9 x10 x11 x12 x13 x14 x15 x16 x17 x18 x19 x20 x21 x22 x23 x24 x25 x26 x27 x28 x29 x30 x31 x32 x33 x34 x35 x36 x37 x38 x39 x40 x41 x42 x43 x44 x45 x46 x47 x48 x49 u22_0 x51 x52 x53 x54 z0 u22_1 ix16 ix17 ix22 ix23 ix24 ix25 ix26 ix27 ix28 ix32 ix33 ix34 ix35 ix36 ix37 ix42 ix43 ix47 ix48 (iv_w mu22_0 (by decide) (by decide)) ix54 iu22_1) (cwV 1 hG (gV wd_1834 wd_1836 wp_122 wd_17 wd_1837) rfl rfl rfl (by decide +kernel) ⟨Nat.le_of_ble_eq_true rfl, Nat.le_of_ble_eq_true rfl⟩) ⟨fun a U g mk q => by obtain ⟨q0, q1, qP, qK, qD⟩ := q; exact ⟨q0, q1, qP, va_K.moved (u := U) (U := U.calling g mk a) (Vm.Alike.refl U.vm) qK, qD⟩, va_recv hKc hPc (ci := 12) (q0 := 0) rfl rfl, fun U hU hW => ⟨rfl, by rw [hU], by rw [hU]; exact hPc, va_K.moved hW.alike hKc, hDc.weaken (fun _ _ _ _ => trivial)⟩⟩ rfl rfl hl.1 rfl (lv_room (Nat.le_of_ble_eq_true rfl)) dX12_sayNumber_36 ⟨by decide, by decide⟩) hS (fun q _ h => hFc q h) hFc (fun u27 t H1 locs ht hvm hw hB hz1 hk1 hS => ?_)
    obtain ⟨u27_0, u27_1⟩ := u27
    have hw : u27_0.toInt = u22_0.toInt + 1 ∧ iv u27_0 1 100 ∧ (∀ j, iv (u27_1 j) (-128) 127) ∧ True := hw
    obtain ⟨lu27_0, iu27_0, iu27_1, -⟩ := hw
    have mu27_0 : iv u27_0 5 100 := by have q9 := mu22_0; exact ⟨by omega, by omega⟩
    obtain ⟨hP1, hK1, hD1⟩ := hB
    rw [ht] at hP1
    have hK1 := va_K.moved hvm.symm hK1
    obtain ⟨hP, hD⟩ := nv_join (wf := [(h0, .inr (12, .int x1 :: .ref h1 :: .ref h2 :: .int x2 :: .int x3 :: .int x4 :: .int x5 :: .int x6 :: .int x7 :: .int x8 :: .int x9 :: .int x10 :: [.int x11, .int x12, .int x13, .int x14, .int x15, .int x16, .ref h3, .ref h4, .ref h5, .ref h6, .int x17, .int x18, .int x19, .int x20, .int x21, .int x22, .int x23, .int x24, .ref h7, .int x25, .int x26, .int x27, .int x28, .ref h8, .ref h9, .int x29, .int x30, .long z0, .int x31, .int x32, .ref h10, .ref h11, .ref h12, .ref h13, .ref h14, .int x33, .int x34, .int x35, .int x36, .int x37, .int x38, .int x39, .int x40, .int x41, .ref h15, .ref h16, .int x42, .int x43, .int x44, .int x45, .int x46, .int x47, .int x48, .int x49, .ref h17, .int u27_0, .int x51, .int x52, .int x53, .int x54])), (h17, .inl (y0, 100, .inl u27_1))]) hP hD [0, 1] [] rfl rfl (by decide) (by decide) hk1 hFc hP1 hD1 rfl
    have hK := (hK.sub (tys' := []) [] rfl).app hK1
    generalize H1 = H at hP hS ⊢
    have hK : va_K (dC, dI) vwCl [(y0, .byte)] s := hK
    clear hKc hPc hDc hFc hP1 hD1 hK1 hk1 hz1
    refine lv_iload_n hx hb dX12_sayNumber_39 rfl (lv_at hl 0 rfl) ?_
    refine lv_bipush (v := 10) hx hb dX12_sayNumber_40 (by decide) ?_
    refine lv_idiv hx hb dX12_sayNumber_42 (by decide) ?_
    refine lv_val (y := 0) (by decide +kernel) ?_
    refine lv_istore_n (lv' := [(2, .int 0), (0, .ref h0), (1, .int x0)]) hx hb dX12_sayNumber_43 rfl hl (by decide) rfl (fun ls hl => ?_)
    refine lv_goto (tgt := 22) hx hb dX12_sayNumber_44 (by decide) ?_
    refine lv_iload_n hx hb dX12_sayNumber_22 rfl (lv_at hl 0 rfl) ?_
    refine lv_if_le (tgt := 47) hx hb dX12_sayNumber_23 (by decide) (fun _ => ?_) (fun c => absurd (by decide) c)
    rw [hQ]
    obtain ⟨hP9, hD9⟩ := nv_sub2 (wc := [(h0, .inr (12, .int x1 :: .ref h1 :: .ref h2 :: .int x2 :: .int x3 :: .int x4 :: .int x5 :: .int x6 :: .int x7 :: .int x8 :: .int x9 :: .int x10 :: [.int x11, .int x12, .int x13, .int x14, .int x15, .int x16, .ref h3, .ref h4, .ref h5, .ref h6, .int x17, .int x18, .int x19, .int x20, .int x21, .int x22, .int x23, .int x24, .ref h7, .int x25, .int x26, .int x27, .int x28, .ref h8, .ref h9, .int x29, .int x30, .long z0, .int x31, .int x32, .ref h10, .ref h11, .ref h12, .ref h13, .ref h14, .int x33, .int x34, .int x35, .int x36, .int x37, .int x38, .int x39, .int x40, .int x41, .ref h15, .ref h16, .int x42, .int x43, .int x44, .int x45, .int x46, .int x47, .int x48, .int x49, .ref h17, .int u27_0, .int x51, .int x52, .int x53, .int x54])), (h17, .inl (y0, 100, .inl u27_1))]) hP hD [0, 1] (by decide) rfl
    have hK9 := hK.sub (tys' := [(y0, .byte)]) [0] rfl
    have oh28 : u27_0.toInt ≤ x50.toInt + 5 := by omega
    exact W.vret hx hb hr (fun t ht hW => ⟨⟨(u27_0, u27_1), rfl, ⟨iv_w mu27_0 (by decide) (by decide), (fun j => iv_w (iu27_1 j) (by decide) (by decide)), oh28, trivial⟩, by rw [ht]; exact hP9, va_K.moved hW.alike hK9, hD9⟩, hS.F ht⟩) hS.2.2 dX12_sayNumber_47
  · skip
    have j29 : iv x0 (-2147483648) 9999 := iv_nleR (by decide : iv 10000 10000 10000) (iv_any x0) c1 (by decide)
    refine lv_iload_n hx hb dX12_sayNumber_14 rfl (lv_at hl 0 rfl) ?_
    refine lv_bipush (v := 10) hx hb dX12_sayNumber_15 (by decide) ?_
    refine lv_idiv hx hb dX12_sayNumber_17 (by decide) ?_
    refine lv_val (y := 1000) (by decide +kernel) ?_
    refine lv_istore_n (lv' := [(2, .int 1000), (0, .ref h0), (1, .int x0)]) hx hb dX12_sayNumber_18 rfl hl (by decide) rfl (fun ls hl => ?_)
    refine lv_goto (tgt := 4) hx hb dX12_sayNumber_19 (by decide) ?_
    refine lv_iload_n hx hb dX12_sayNumber_4 rfl (lv_at hl 0 rfl) ?_
    refine lv_iconst (v := 1) hx hb dX12_sayNumber_5 (by decide) ?_
    refine lv_icmp_le (tgt := 22) hx hb dX12_sayNumber_6 (by decide) (fun c => absurd c (by decide)) (fun _ => ?_)
    refine lv_iload_n hx hb dX12_sayNumber_9 rfl (lv_at hl 2 rfl) ?_
    refine lv_iload_n hx hb dX12_sayNumber_10 rfl (lv_at hl 0 rfl) ?_
    refine lv_icmp_ge (tgt := 22) hx hb dX12_sayNumber_11 (by decide) (fun c30 => ?_) (fun c30 => ?_)
    · skip
      have j31 : iv x0 1000 9999 := iv_leR (by decide : iv 1000 1000 1000) j29 c30 (by decide)
      refine lv_iload_n hx hb dX12_sayNumber_22 rfl (lv_at hl 0 rfl) ?_
      refine lv_if_le (tgt := 47) hx hb dX12_sayNumber_23 (by decide) (fun c => absurd c (by decide)) (fun _ => ?_)
      refine lv_aload_n hx hb dX12_sayNumber_26 rfl (lv_at hl 1 rfl) ?_
      refine lv_bipush (v := 48) hx hb dX12_sayNumber_27 (by decide) ?_
      refine lv_iload_n hx hb dX12_sayNumber_29 rfl (lv_at hl 2 rfl) ?_
      refine lv_iload_n hx hb dX12_sayNumber_30 rfl (lv_at hl 0 rfl) ?_
      refine lv_idiv hx hb dX12_sayNumber_31 (by decide) ?_
      refine lv_topi (fun v32 ev32 => ?_)
      refine lv_bipush (v := 10) hx hb dX12_sayNumber_32 (by decide) ?_
      refine lv_irem hx hb dX12_sayNumber_34 (by decide) ?_
      refine lv_topi (fun v33 ev33 => ?_)
      refine lv_iadd hx hb dX12_sayNumber_35 ?_
      refine lv_topi (fun v34 ev34 => ?_)
      obtain ⟨hPc, hDc, hFc⟩ := nv_sub3 (wc := [(h0, .inr (12, .int x1 :: .ref h1 :: .ref h2 :: .int x2 :: .int x3 :: .int x4 :: .int x5 :: .int x6 :: .int x7 :: .int x8 :: .int x9 :: .int x10 :: [.int x11, .int x12, .int x13, .int x14, .int x15, .int x16, .ref h3, .ref h4, .ref h5, .ref h6, .int x17, .int x18, .int x19, .int x20, .int x21, .int x22, .int x23, .int x24, .ref h7, .int x25, .int x26, .int x27, .int x28, .ref h8, .ref h9, .int x29, .int x30, .long z0, .int x31, .int x32, .ref h10, .ref h11, .ref h12, .ref h13, .ref h14, .int x33, .int x34, .int x35, .int x36, .int x37, .int x38, .int x39, .int x40, .int x41, .ref h15, .ref h16, .int x42, .int x43, .int x44, .int x45, .int x46, .int x47, .int x48, .int x49, .ref h17, .int x50, .int x51, .int x52, .int x53, .int x54])), (h17, .inl (y0, 100, .inl f0))]) hP hD hS hA [0, 1] (by decide) rfl
      have hKc := hK.sub (tys' := [(y0, .byte)]) [0] rfl
      refine va_callv (va_runV (As := [.int v34]) (rest := []) ⟨hx, hb, hml, hown, hG⟩ (cX12_say_1 l dC dI h0 h1 h2 h3 h4 h5 h6 h7 h8 h9 h10 h11 h12 h13 h14 h15 h16 h17 y0 s.heap.size v34 x1 x2 x3 x4 x5 x6 x7 x8 x9 x10 x11 x12 x13 x14 x15 x16 x17 x18 x19 x20 x21 x22 x23 x24 x25 x26 x27 x28 x29 x30 x31 x32 x33 x34 x35 x36 x37 x38 x39 x40 x41 x42 x43 x44 x45 x46 x47 x48 x49 x50 x51 x52 x53 x54 z0 f0 ix16 ix17 ix22 ix23 ix24 ix25 ix26 ix27 ix28 ix32 ix33 ix34 ix35 ix36 ix37 ix42 ix43 ix47 ix48 (iv_w ix50 (by decide) (by decide)) ix54 if0) (cwV 1 hG (gV wd_1834 wd_1836 wp_122 wd_17 wd_1837) rfl rfl rfl (by decide +kernel) ⟨Nat.le_of_ble_eq_true rfl, Nat.le_of_ble_eq_true rfl⟩) ⟨fun a U g mk q => by obtain ⟨q0, q1, qP, qK, qD⟩ := q; exact ⟨q0, q1, qP, va_K.moved (u := U) (U := U.calling g mk a) (Vm.Alike.refl U.vm) qK, qD⟩, va_recv hKc hPc (ci := 12) (q0 := 0) rfl rfl, fun U hU hW => ⟨rfl, by rw [hU], by rw [hU]; exact hPc, va_K.moved hW.alike hKc, hDc.weaken (fun _ _ _ _ => trivial)⟩⟩ rfl rfl hl.1 rfl (lv_room (Nat.le_of_ble_eq_true rfl)) dX12_sayNumber_36 ⟨by decide, by decide⟩) hS (fun q _ h => hFc q h) hFc (fun u36 t H1 locs ht hvm hw hB hz1 hk1 hS => ?_)
      obtain ⟨u36_0, u36_1⟩ := u36
      have hw : u36_0.toInt = x50.toInt + 1 ∧ iv u36_0 1 100 ∧ (∀ j, iv (u36_1 j) (-128) 127) ∧ True := hw
      obtain ⟨lu36_0, iu36_0, iu36_1, -⟩ := hw
      have mu36_0 : iv u36_0 1 96 := by have q9 := ix50; exact ⟨by omega, by omega⟩
      obtain ⟨hP1, hK1, hD1⟩ := hB
      rw [ht] at hP1
      have hK1 := va_K.moved hvm.symm hK1
      obtain ⟨hP, hD⟩ := nv_join (wf := [(h0, .inr (12, .int x1 :: .ref h1 :: .ref h2 :: .int x2 :: .int x3 :: .int x4 :: .int x5 :: .int x6 :: .int x7 :: .int x8 :: .int x9 :: .int x10 :: [.int x11, .int x12, .int x13, .int x14, .int x15, .int x16, .ref h3, .ref h4, .ref h5, .ref h6, .int x17, .int x18, .int x19, .int x20, .int x21, .int x22, .int x23, .int x24, .ref h7, .int x25, .int x26, .int x27, .int x28, .ref h8, .ref h9, .int x29, .int x30, .long z0, .int x31, .int x32, .ref h10, .ref h11, .ref h12, .ref h13, .ref h14, .int x33, .int x34, .int x35, .int x36, .int x37, .int x38, .int x39, .int x40, .int x41, .ref h15, .ref h16, .int x42, .int x43, .int x44, .int x45, .int x46, .int x47, .int x48, .int x49, .ref h17, .int u36_0, .int x51, .int x52, .int x53, .int x54])), (h17, .inl (y0, 100, .inl u36_1))]) hP hD [0, 1] [] rfl rfl (by decide) (by decide) hk1 hFc hP1 hD1 rfl
      have hK := (hK.sub (tys' := []) [] rfl).app hK1
      generalize H1 = H at hP hS ⊢
      have hK : va_K (dC, dI) vwCl [(y0, .byte)] s := hK
      clear hKc hPc hDc hFc hP1 hD1 hK1 hk1 hz1
      refine lv_iload_n hx hb dX12_sayNumber_39 rfl (lv_at hl 0 rfl) ?_
      refine lv_bipush (v := 10) hx hb dX12_sayNumber_40 (by decide) ?_
      refine lv_idiv hx hb dX12_sayNumber_42 (by decide) ?_
      refine lv_val (y := 100) (by decide +kernel) ?_
      refine lv_istore_n (lv' := [(2, .int 100), (0, .ref h0), (1, .int x0)]) hx hb dX12_sayNumber_43 rfl hl (by decide) rfl (fun ls hl => ?_)
      refine lv_goto (tgt := 22) hx hb dX12_sayNumber_44 (by decide) ?_
      refine lv_iload_n hx hb dX12_sayNumber_22 rfl (lv_at hl 0 rfl) ?_
      refine lv_if_le (tgt := 47) hx hb dX12_sayNumber_23 (by decide) (fun c => absurd c (by decide)) (fun _ => ?_)
      refine lv_aload_n hx hb dX12_sayNumber_26 rfl (lv_at hl 1 rfl) ?_
      refine lv_bipush (v := 48) hx hb dX12_sayNumber_27 (by decide) ?_
      refine lv_iload_n hx hb dX12_sayNumber_29 rfl (lv_at hl 2 rfl) ?_
      refine lv_iload_n hx hb dX12_sayNumber_30 rfl (lv_at hl 0 rfl) ?_
      refine lv_idiv hx hb dX12_sayNumber_31 (by decide) ?_
      refine lv_topi (fun v37 ev37 => ?_)
      refine lv_bipush (v := 10) hx hb dX12_sayNumber_32 (by decide) ?_
      refine lv_irem hx hb dX12_sayNumber_34 (by decide) ?_
      refine lv_topi (fun v38 ev38 => ?_)
      refine lv_iadd hx hb dX12_sayNumber_35 ?_
      refine lv_topi (fun v39 ev39 => ?_)
      obtain ⟨hPc, hDc, hFc⟩ := nv_sub3 (wc := [(h0, .inr (12, .int x1 :: .ref h1 :: .ref h2 :: .int x2 :: .int x3 :: .int x4 :: .int x5 :: .int x6 :: .int x7 :: .int x8 :: .int x9 :: .int x10 :: [.int x11, .int x12, .int x13, .int x14, .int x15, .int x16, .ref h3, .ref h4, .ref h5, .ref h6, .int x17, .int x18, .int x19, .int x20, .int x21, .int x22, .int x23, .int x24, .ref h7, .int x25, .int x26, .int x27, .int x28, .ref h8, .ref h9, .int x29, .int x30, .long z0, .int x31, .int x32, .ref h10, .ref h11, .ref h12, .ref h13, .ref h14, .int x33, .int x34, .int x35, .int x36, .int x37, .int x38, .int x39, .int x40, .int x41, .ref h15, .ref h16, .int x42, .int x43, .int x44, .int x45, .int x46, .int x47, .int x48, .int x49, .ref h17, .int u36_0, .int x51, .int x52, .int x53, .int x54])), (h17, .inl (y0, 100, .inl u36_1))]) hP hD hS hA [0, 1] (by decide) rfl
      have hKc := hK.sub (tys' := [(y0, .byte)]) [0] rfl
      refine va_callv (va_runV (As := [.int v39]) (rest := []) ⟨hx, hb, hml, hown, hG⟩ (cX12_say_1 l dC dI h0 h1 h2 h3 h4 h5 h6 h7 h8 h9 h10 h11 h12 h13 h14 h15 h16 h17 y0 H.size v39 x1 x2 x3 x4 x5 x6 x7 x8 x9 x10 x11 x12 x13 x14 x15 x16 x17 x18 x19 x20 x21 x22 x23 x24 x25 x26 x27 x28 x29 x30 x31 x32 x33 x34 x35 x36 x37 x38 x39 x40 x41 x42 x43 x44 x45 x46 x47 x48 x49 u36_0 x51 x52 x53 x54 z0 u36_1 ix16 ix17 ix22 ix23 ix24 ix25 ix26 ix27 ix28 ix32 ix33 ix34 ix35 ix36 ix37 ix42 ix43 ix47 ix48 (iv_w mu36_0 (by decide) (by decide)) ix54 iu36_1) (cwV 1 hG (gV wd_1834 wd_1836 wp_122 wd_17 wd_1837) rfl rfl rfl (by decide +kernel) ⟨Nat.le_of_ble_eq_true rfl, Nat.le_of_ble_eq_true rfl⟩) ⟨fun a U g mk q => by obtain ⟨q0, q1, qP, qK, qD⟩ := q; exact ⟨q0, q1, qP, va_K.moved (u := U) (U := U.calling g mk a) (Vm.Alike.refl U.vm) qK, qD⟩, va_recv hKc hPc (ci := 12) (q0 := 0) rfl rfl, fun U hU hW => ⟨rfl, by rw [hU], by rw [hU]; exact hPc, va_K.moved hW.alike hKc, hDc.weaken (fun _ _ _ _ => trivial)⟩⟩ rfl rfl hl.1 rfl (lv_room (Nat.le_of_ble_eq_true rfl)) dX12_sayNumber_36 ⟨by decide, by decide⟩) hS (fun q _ h => hFc q h) hFc (fun u41 t H1 locs ht hvm hw hB hz1 hk1 hS => ?_)
      obtain ⟨u41_0, u41_1⟩ := u41
      have hw : u41_0.toInt = u36_0.toInt + 1 ∧ iv u41_0 1 100 ∧ (∀ j, iv (u41_1 j) (-128) 127) ∧ True := hw
      obtain ⟨lu41_0, iu41_0, iu41_1, -⟩ := hw
      have mu41_0 : iv u41_0 2 97 := by have q9 := mu36_0; exact ⟨by omega, by omega⟩
      obtain ⟨hP1, hK1, hD1⟩ := hB
      rw [ht] at hP1
      have hK1 := va_K.moved hvm.symm hK1
      obtain ⟨hP, hD⟩ := nv_join (wf := [(h0, .inr (12, .int x1 :: .ref h1 :: .ref h2 :: .int x2 :: .int x3 :: .int x4 :: .int x5 :: .int x6 :: .int x7 :: .int x8 :: .int x9 :: .int x10 :: [.int x11, .int x12, .int x13, .int x14, .int x15, .int x16, .ref h3, .ref h4, .ref h5, .ref h6, .int x17, .int x18, .int x19, .int x20, .int x21, .int x22, .int x23, .int x24, .ref h7, .int x25, .int x26, .int x27, .int x28, .ref h8, .ref h9, .int x29, .int x30, .long z0, .int x31, .int x32, .ref h10, .ref h11, .ref h12, .ref h13, .ref h14, .int x33, .int x34, .int x35, .int x36, .int x37, .int x38, .int x39, .int x40, .int x41, .ref h15, .ref h16, .int x42, .int x43, .int x44, .int x45, .int x46, .int x47, .int x48, .int x49, .ref h17, .int u41_0, .int x51, .int x52, .int x53, .int x54])), (h17, .inl (y0, 100, .inl u41_1))]) hP hD [0, 1] [] rfl rfl (by decide) (by decide) hk1 hFc hP1 hD1 rfl
      have hK := (hK.sub (tys' := []) [] rfl).app hK1
      generalize H1 = H at hP hS ⊢
      have hK : va_K (dC, dI) vwCl [(y0, .byte)] s := hK
      clear hKc hPc hDc hFc hP1 hD1 hK1 hk1 hz1
      refine lv_iload_n hx hb dX12_sayNumber_39 rfl (lv_at hl 0 rfl) ?_
      refine lv_bipush (v := 10) hx hb dX12_sayNumber_40 (by decide) ?_
      refine lv_idiv hx hb dX12_sayNumber_42 (by decide) ?_
      refine lv_val (y := 10) (by decide +kernel) ?_
      refine lv_istore_n (lv' := [(2, .int 10), (0, .ref h0), (1, .int x0)]) hx hb dX12_sayNumber_43 rfl hl (by decide) rfl (fun ls hl => ?_)
      refine lv_goto (tgt := 22) hx hb dX12_sayNumber_44 (by decide) ?_
      refine lv_iload_n hx hb dX12_sayNumber_22 rfl (lv_at hl 0 rfl) ?_
      refine lv_if_le (tgt := 47) hx hb dX12_sayNumber_23 (by decide) (fun c => absurd c (by decide)) (fun _ => ?_)
      refine lv_aload_n hx hb dX12_sayNumber_26 rfl (lv_at hl 1 rfl) ?_
      refine lv_bipush (v := 48) hx hb dX12_sayNumber_27 (by decide) ?_
      refine lv_iload_n hx hb dX12_sayNumber_29 rfl (lv_at hl 2 rfl) ?_
      refine lv_iload_n hx hb dX12_sayNumber_30 rfl (lv_at hl 0 rfl) ?_
      refine lv_idiv hx hb dX12_sayNumber_31 (by decide) ?_
      refine lv_topi (fun v42 ev42 => ?_)
      refine lv_bipush (v := 10) hx hb dX12_sayNumber_32 (by decide) ?_
      refine lv_irem hx hb dX12_sayNumber_34 (by decide) ?_
      refine lv_topi (fun v43 ev43 => ?_)
      refine lv_iadd hx hb dX12_sayNumber_35 ?_
      refine lv_topi (fun v44 ev44 => ?_)
      obtain ⟨hPc, hDc, hFc⟩ := nv_sub3 (wc := [(h0, .inr (12, .int x1 :: .ref h1 :: .ref h2 :: .int x2 :: .int x3 :: .int x4 :: .int x5 :: .int x6 :: .int x7 :: .int x8 :: .int x9 :: .int x10 :: [.int x11, .int x12, .int x13, .int x14, .int x15, .int x16, .ref h3, .ref h4, .ref h5, .ref h6, .int x17, .int x18, .int x19, .int x20, .int x21, .int x22, .int x23, .int x24, .ref h7, .int x25, .int x26, .int x27, .int x28, .ref h8, .ref h9, .int x29, .int x30, .long z0, .int x31, .int x32, .ref h10, .ref h11, .ref h12, .ref h13, .ref h14, .int x33, .int x34, .int x35, .int x36, .int x37, .int x38, .int x39, .int x40, .int x41, .ref h15, .ref h16, .int x42, .int x43, .int x44, .int x45, .int x46, .int x47, .int x48, .int x49, .ref h17, .int u41_0, .int x51, .int x52, .int x53, .int x54])), (h17, .inl (y0, 100, .inl u41_1))]) hP hD hS hA [0, 1] (by decide) rfl
      have hKc := hK.sub (tys' := [(y0, .byte)]) [0] rfl
      refine va_callv (va_runV (As := [.int v44]) (rest := []) ⟨hx, hb, hml, hown, hG⟩ (cX12_say_1 l dC dI h0 h1 h2 h3 h4 h5 h6 h7 h8 h9 h10 h11 h12 h13 h14 h15 h16 h17 y0 H.size v44 x1 x2 x3 x4 x5 x6 x7 x8 x9 x10 x11 x12 x13 x14 x15 x16 x17 x18 x19 x20 x21 x22 x23 x24 x25 x26 x27 x28 x29 x30 x31 x32 x33 x34 x35 x36 x37 x38 x39 x40 x41 x42 x43 x44 x45 x46 x47 x48 x49 u41_0 x51 x52 x53 x54 z0 u41_1 ix16 ix17 ix22 ix23 ix24 ix25 ix26 ix27 ix28 ix32 ix33 ix34 ix35 ix36 ix37 ix42 ix43 ix47 ix48 (iv_w mu41_0 (by decide) (by decide)) ix54 iu41_1) (cwV 1 hG (gV wd_1834 wd_1836 wp_122 wd_17 wd_1837) rfl rfl rfl (by decide +kernel) ⟨Nat.le_of_ble_eq_true rfl, Nat.le_of_ble_eq_true rfl⟩) ⟨fun a U g mk q => by obtain ⟨q0, q1, qP, qK, qD⟩ := q; exact ⟨q0, q1, qP, va_K.moved (u := U) (U := U.calling g mk a) (Vm.Alike.refl U.vm) qK, qD⟩, va_recv hKc hPc (ci := 12) (q0 := 0) rfl rfl, fun U hU hW => ⟨rfl, by rw [hU], by rw [hU]; exact hPc, va_K.moved hW.alike hKc, hDc.weaken (fun _ _ _ _ => trivial)⟩⟩ rfl rfl hl.1 rfl (lv_room (Nat.le_of_ble_eq_true rfl)) dX12_sayNumber_36 ⟨by decide, by decide⟩) hS (fun q _ h => hFc q h) hFc (fun u46 t H1 locs ht hvm hw hB hz1 hk1 hS => ?_)
      obtain ⟨u46_0, u46_1⟩ := u46
      have hw : u46_0.toInt = u41_0.toInt + 1 ∧ iv u46_0 1 100 ∧ (∀ j, iv (u46_1 j) (-128) 127) ∧ True := hw
      obtain ⟨lu46_0, iu46_0, iu46_1, -⟩ := hw
      have mu46_0 : iv u46_0 3 98 := by have q9 := mu41_0; exact ⟨by omega, by omega⟩
      obtain ⟨hP1, hK1, hD1⟩ := hB
      rw [ht] at hP1
      have hK1 := va_K.moved hvm.symm hK1
      obtain ⟨hP, hD⟩ := nv_join (wf := [(h0, .inr (12, .int x1 :: .ref h1 :: .ref h2 :: .int x2 :: .int x3 :: .int x4 :: .int x5 :: .int x6 :: .int x7 :: .int x8 :: .int x9 :: .int x10 :: [.int x11, .int x12, .int x13, .int x14, .int x15, .int x16, .ref h3, .ref h4, .ref h5, .ref h6, .int x17, .int x18, .int x19, .int x20, .int x21, .int x22, .int x23, .int x24, .ref h7, .int x25, .int x26, .int x27, .int x28, .ref h8, .ref h9, .int x29, .int x30, .long z0, .int x31, .int x32, .ref h10, .ref h11, .ref h12, .ref h13, .ref h14, .int x33, .int x34, .int x35, .int x36, .int x37, .int x38, .int x39, .int x40, .int x41, .ref h15, .ref h16, .int x42, .int x43, .int x44, .int x45, .int x46, .int x47, .int x48, .int x49, .ref h17, .int u46_0, .int x51, .int x52, .int x53, .int x54])), (h17, .inl (y0, 100, .inl u46_1))]) hP hD [0, 1] [] rfl rfl (by decide) (by decide) hk1 hFc hP1 hD1 rfl
      have hK := (hK.sub (tys' := []) [] rfl).app hK1
      generalize H1 = H at hP hS ⊢
      have hK : va_K (dC, dI) vwCl [(y0, .byte)] s := hK
      clear hKc hPc hDc hFc hP1 hD1 hK1 hk1 hz1
      refine lv_iload_n hx hb dX12_sayNumber_39 rfl (lv_at hl 0 rfl) ?_
      refine lv_bipush (v := 10) hx hb dX12_sayNumber_40 (by decide) ?_
      refine lv_idiv hx hb dX12_sayNumber_42 (by decide) ?_
      refine lv_val (y := 1) (by decide +kernel) ?_
      refine lv_istore_n (lv' := [(2, .int 1), (0, .ref h0), (1, .int x0)]) hx hb dX12_sayNumber_43 rfl hl (by decide) rfl (fun ls hl => ?_)
      refine lv_goto (tgt := 22) hx hb dX12_sayNumber_44 (by decide) ?_
      refine lv_iload_n hx hb dX12_sayNumber_22 rfl (lv_at hl 0 rfl) ?_
      refine lv_if_le (tgt := 47) hx hb dX12_sayNumber_23 (by decide) (fun c => absurd c (by decide)) (fun _ => ?_)
      refine lv_aload_n hx hb dX12_sayNumber_26 rfl (lv_at hl 1 rfl) ?_
      refine lv_bipush (v := 48) hx hb dX12_sayNumber_27 (by decide) ?_
      refine lv_iload_n hx hb dX12_sayNumber_29 rfl (lv_at hl 2 rfl) ?_
      refine lv_iload_n hx hb dX12_sayNumber_30 rfl (lv_at hl 0 rfl) ?_
      refine lv_idiv hx hb dX12_sayNumber_31 (by decide) ?_
      refine lv_topi (fun v47 ev47 => ?_)
      refine lv_bipush (v := 10) hx hb dX12_sayNumber_32 (by decide) ?_
      refine lv_irem hx hb dX12_sayNumber_34 (by decide) ?_
      refine lv_topi (fun v48 ev48 => ?_)
      refine lv_iadd hx hb dX12_sayNumber_35 ?_
      refine lv_topi (fun v49 ev49 => ?_)
      obtain ⟨hPc, hDc, hFc⟩ := nv_sub3 (wc := [(h0, .inr (12, .int x1 :: .ref h1 :: .ref h2 :: .int x2 :: .int x3 :: .int x4 :: .int x5 :: .int x6 :: .int x7 :: .int x8 :: .int x9 :: .int x10 :: [.int x11, .int x12, .int x13, .int x14, .int x15, .int x16, .ref h3, .ref h4, .ref h5, .ref h6, .int x17, .int x18, .int x19, .int x20, .int x21, .int x22, .int x23, .int x24, .ref h7, .int x25, .int x26, .int x27, .int x28, .ref h8, .ref h9, .int x29, .int x30, .long z0, .int x31, .int x32, .ref h10, .ref h11, .ref h12, .ref h13, .ref h14, .int x33, .int x34, .int x35, .int x36, .int x37, .int x38, .int x39, .int x40, .int x41, .ref h15, .ref h16, .int x42, .int x43, .int x44, .int x45, .int x46, .int x47, .int x48, .int x49, .ref h17, .int u46_0, .int x51, .int x52, .int x53, .int x54])), (h17, .inl (y0, 100, .inl u46_1))]) hP hD hS hA [0, 1] (by decide) rfl
      have hKc := hK.sub (tys' := [(y0, .byte)]) [0] rfl
      refine va_callv (va_runV (As := [.int v49]) (rest := []) ⟨hx, hb, hml, hown, hG⟩ (cX12_say_1 l dC dI h0 h1 h2 h3 h4 h5 h6 h7 h8 h9 h10 h11 h12 h13 h14 h15 h16 h17 y0 H.size v49 x1 x2 x3 x4 x5 x6 x7 x8 x9 x10 x11 x12 x13 x14 x15 x16 x17 x18 x19 x20 x21 x22 x23 x24 x25 x26 x27 x28 x29 x30 x31 x32 x33 x34 x35 x36 x37 x38 x39 x40 x41 x42 x43 x44 x45 x46 x47 x48 x49 u46_0 x51 x52 x53 x54 z0 u46_1 ix16 ix17 ix22 ix23 ix24 ix25 ix26 ix27 ix28 ix32 ix33 ix34 ix35 ix36 ix37 ix42 ix43 ix47 ix48 (iv_w mu46_0 (by decide) (by decide)) ix54 iu46_1) (cwV 1 hG (gV wd_1834 wd_1836 wp_122 wd_17 wd_1837) rfl rfl rfl (by decide +kernel) ⟨Nat.le_of_ble_eq_true rfl, Nat.le_of_ble_eq_true rfl⟩) ⟨fun a U g mk q => by obtain ⟨q0, q1, qP, qK, qD⟩ := q; exact ⟨q0, q1, qP, va_K.moved (u := U) (U := U.calling g mk a) (Vm.Alike.refl U.vm) qK, qD⟩, va_recv hKc hPc (ci := 12) (q0 := 0) rfl rfl, fun U hU hW => ⟨rfl, by rw [hU], by rw [hU]; exact hPc, va_K.moved hW.alike hKc, hDc.weaken (fun _ _ _ _ => trivial)⟩⟩ rfl rfl hl.1 rfl (lv_room (Nat.le_of_ble_eq_true rfl)) dX12_sayNumber_36 ⟨by decide, by decide⟩) hS (fun q _ h => hFc q h) hFc (fun u51 t H1 locs ht hvm hw hB hz1 hk1 hS => ?_)
      obtain ⟨u51_0, u51_1⟩ := u51
      have hw : u51_0.toInt = u46_0.toInt + 1 ∧ iv u51_0 1 100 ∧ (∀ j, iv (u51_1 j) (-128) 127) ∧ True := hw
      obtain ⟨lu51_0, iu51_0, iu51_1, -⟩ := hw
      have mu51_0 : iv u51_0 4 99 := by have q9 := mu46_0; exact ⟨by omega, by omega⟩
      obtain ⟨hP1, hK1, hD1⟩ := hB
      rw [ht] at hP1
      have hK1 := va_K.moved hvm.symm hK1
      obtain ⟨hP, hD⟩ := nv_join (wf := [(h0, .inr (12, .int x1 :: .ref h1 :: .ref h2 :: .int x2 :: .int x3 :: .int x4 :: .int x5 :: .int x6 :: .int x7 :: .int x8 :: .int x9 :: .int x10 :: [.int x11, .int x12, .int x13, .int x14, .int x15, .int x16, .ref h3, .ref h4, .ref h5, .ref h6, .int x17, .int x18, .int x19, .int x20, .int x21, .int x22, .int x23, .int x24, .ref h7, .int x25, .int x26, .int x27, .int x28, .ref h8, .ref h9, .int x29, .int x30, .long z0, .int x31, .int x32, .ref h10, .ref h11, .ref h12, .ref h13, .ref h14, .int x33, .int x34, .int x35, .int x36, .int x37, .int x38, .int x39, .int x40, .int x41, .ref h15, .ref h16, .int x42, .int x43, .int x44, .int x45, .int x46, .int x47, .int x48, .int x49, .ref h17, .int u51_0, .int x51, .int x52, .int x53, .int x54])), (h17, .inl (y0, 100, .inl u51_1))]) hP hD [0, 1] [] rfl rfl (by decide) (by decide) hk1 hFc hP1 hD1 rfl
      have hK := (hK.sub (tys' := []) [] rfl).app hK1
      generalize H1 = H at hP hS ⊢
      have hK : va_K (dC, dI) vwCl [(y0, .byte)] s := hK
      clear hKc hPc hDc hFc hP1 hD1 hK1 hk1 hz1
      refine lv_iload_n hx hb dX12_sayNumber_39 rfl (lv_at hl 0 rfl) ?_
      refine lv_bipush (v := 10) hx hb dX12_sayNumber_40 (by decide) ?_
      refine lv_idiv hx hb dX12_sayNumber_42 (by decide) ?_
      refine lv_val (y := 0) (by decide +kernel) ?_
      refine lv_istore_n (lv' := [(2, .int 0), (0, .ref h0), (1, .int x0)]) hx hb dX12_sayNumber_43 rfl hl (by decide) rfl (fun ls hl => ?_)
      refine lv_goto (tgt := 22) hx hb dX12_sayNumber_44 (by decide) ?_
      refine lv_iload_n hx hb dX12_sayNumber_22 rfl (lv_at hl 0 rfl) ?_
      refine lv_if_le (tgt := 47) hx hb dX12_sayNumber_23 (by decide) (fun _ => ?_) (fun c => absurd (by decide) c)
      rw [hQ]
      obtain ⟨hP9, hD9⟩ := nv_sub2 (wc := [(h0, .inr (12, .int x1 :: .ref h1 :: .ref h2 :: .int x2 :: .int x3 :: .int x4 :: .int x5 :: .int x6 :: .int x7 :: .int x8 :: .int x9 :: .int x10 :: [.int x11, .int x12, .int x13, .int x14, .int x15, .int x16, .ref h3, .ref h4, .ref h5, .ref h6, .int x17, .int x18, .int x19, .int x20, .int x21, .int x22, .int x23, .int x24, .ref h7, .int x25, .int x26, .int x27, .int x28, .ref h8, .ref h9, .int x29, .int x30, .long z0, .int x31, .int x32, .ref h10, .ref h11, .ref h12, .ref h13, .ref h14, .int x33, .int x34, .int x35, .int x36, .int x37, .int x38, .int x39, .int x40, .int x41, .ref h15, .ref h16, .int x42, .int x43, .int x44, .int x45, .int x46, .int x47, .int x48, .int x49, .ref h17, .int u51_0, .int x51, .int x52, .int x53, .int x54])), (h17, .inl (y0, 100, .inl u51_1))]) hP hD [0, 1] (by decide) rfl
      have hK9 := hK.sub (tys' := [(y0, .byte)]) [0] rfl
      have oh52 : u51_0.toInt ≤ x50.toInt + 5 := by omega
      exact W.vret hx hb hr (fun t ht hW => ⟨⟨(u51_0, u51_1), rfl, ⟨iv_w mu51_0 (by decide) (by decide), (fun j => iv_w (iu51_1 j) (by decide) (by decide)), oh52, trivial⟩, by rw [ht]; exact hP9, va_K.moved hW.alike hK9, hD9⟩, hS.F ht⟩) hS.2.2 dX12_sayNumber_47
    · skip
      have j53 : iv x0 (-2147483648) 999 := iv_nleR (by decide : iv 1000 1000 1000) j29 c30 (by decide)
      refine lv_iload_n hx hb dX12_sayNumber_14 rfl (lv_at hl 0 rfl) ?_
      refine lv_bipush (v := 10) hx hb dX12_sayNumber_15 (by decide) ?_
      refine lv_idiv hx hb dX12_sayNumber_17 (by decide) ?_
      refine lv_val (y := 100) (by decide +kernel) ?_
      refine lv_istore_n (lv' := [(2, .int 100), (0, .ref h0), (1, .int x0)]) hx hb dX12_sayNumber_18 rfl hl (by decide) rfl (fun ls hl => ?_)
      refine lv_goto (tgt := 4) hx hb dX12_sayNumber_19 (by decide) ?_
      refine lv_iload_n hx hb dX12_sayNumber_4 rfl (lv_at hl 0 rfl) ?_
      refine lv_iconst (v := 1) hx hb dX12_sayNumber_5 (by decide) ?_
      refine lv_icmp_le (tgt := 22) hx hb dX12_sayNumber_6 (by decide) (fun c => absurd c (by decide)) (fun _ => ?_)
      refine lv_iload_n hx hb dX12_sayNumber_9 rfl (lv_at hl 2 rfl) ?_
      refine lv_iload_n hx hb dX12_sayNumber_10 rfl (lv_at hl 0 rfl) ?_
      refine lv_icmp_ge (tgt := 22) hx hb dX12_sayNumber_11 (by decide) (fun c54 => ?_) (fun c54 => ?_)
      · skip
        have j55 : iv x0 100 999 := iv_leR (by decide : iv 100 100 100) j53 c54 (by decide)
        refine lv_iload_n hx hb dX12_sayNumber_22 rfl (lv_at hl 0 rfl) ?_
        refine lv_if_le (tgt := 47) hx hb dX12_sayNumber_23 (by decide) (fun c => absurd c (by decide)) (fun _ => ?_)
        refine lv_aload_n hx hb dX12_sayNumber_26 rfl (lv_at hl 1 rfl) ?_
        refine lv_bipush (v := 48) hx hb dX12_sayNumber_27 (by decide) ?_
        refine lv_iload_n hx hb dX12_sayNumber_29 rfl (lv_at hl 2 rfl) ?_
        refine lv_iload_n hx hb dX12_sayNumber_30 rfl (lv_at hl 0 rfl) ?_
        refine lv_idiv hx hb dX12_sayNumber_31 (by decide) ?_
        refine lv_topi (fun v56 ev56 => ?_)
        refine lv_bipush (v := 10) hx hb dX12_sayNumber_32 (by decide) ?_
        refine lv_irem hx hb dX12_sayNumber_34 (by decide) ?_
        refine lv_topi (fun v57 ev57 => ?_)
        refine lv_iadd hx hb dX12_sayNumber_35 ?_
        refine lv_topi (fun v58 ev58 => ?_)
        obtain ⟨hPc, hDc, hFc⟩ := nv_sub3 (wc := [(h0, .inr (12, .int x1 :: .ref h1 :: .ref h2 :: .int x2 :: .int x3 :: .int x4 :: .int x5 :: .int x6 :: .int x7 :: .int x8 :: .int x9 :: .int x10 :: [.int x11, .int x12, .int x13, .int x14, .int x15, .int x16, .ref h3, .ref h4, .ref h5, .ref h6, .int x17, .int x18, .int x19, .int x20, .int x21, .int x22, .int x23, .int x24, .ref h7, .int x25, .int x26, .int x27, .int x28, .ref h8, .ref h9, .int x29, .int x30, .long z0, .int x31, .int x32, .ref h10, .ref h11, .ref h12, .ref h13, .ref h14, .int x33, .int x34, .int x35, .int x36, .int x37, .int x38, .int x39, .int x40, .int x41, .ref h15, .ref h16, .int x42, .int x43, .int x44, .int x45, .int x46, .int x47, .int x48, .int x49, .ref h17, .int x50, .int x51, .int x52, .int x53, .int x54])), (h17, .inl (y0, 100, .inl f0))]) hP hD hS hA [0, 1] (by decide) rfl
        have hKc := hK.sub (tys' := [(y0, .byte)]) [0] rfl
        refine va_callv (va_runV (As := [.int v58]) (rest := []) ⟨hx, hb, hml, hown, hG⟩ (cX12_say_1 l dC dI h0 h1 h2 h3 h4 h5 h6 h7 h8 h9 h10 h11 h12 h13 h14 h15 h16 h17 y0 s.heap.size v58 x1 x2 x3 x4 x5 x6 x7 x8 x9 x10 x11 x12 x13 x14 x15 x16 x17 x18 x19 x20 x21 x22 x23 x24 x25 x26 x27 x28 x29 x30 x31 x32 x33 x34 x35 x36 x37 x38 x39 x40 x41 x42 x43 x44 x45 x46 x47 x48 x49 x50 x51 x52 x53 x54 z0 f0 ix16 ix17 ix22 ix23 ix24 ix25 ix26 ix27 ix28 ix32 ix33 ix34 ix35 ix36 ix37 ix42 ix43 ix47 ix48 (iv_w ix50 (by decide) (by decide)) ix54 if0) (cwV 1 hG (gV wd_1834 wd_1836 wp_122 wd_17 wd_1837) rfl rfl rfl (by decide +kernel) ⟨Nat.le_of_ble_eq_true rfl, Nat.le_of_ble_eq_true rfl⟩) ⟨fun a U g mk q => by obtain ⟨q0, q1, qP, qK, qD⟩ := q; exact ⟨q0, q1, qP, va_K.moved (u := U) (U := U.calling g mk a) (Vm.Alike.refl U.vm) qK, qD⟩, va_recv hKc hPc (ci := 12) (q0 := 0) rfl rfl, fun U hU hW => ⟨rfl, by rw [hU], by rw [hU]; exact hPc, va_K.moved hW.alike hKc, hDc.weaken (fun _ _ _ _ => trivial)⟩⟩ rfl rfl hl.1 rfl (lv_room (Nat.le_of_ble_eq_true rfl)) dX12_sayNumber_36 ⟨by decide, by decide⟩) hS (fun q _ h => hFc q h) hFc (fun u60 t H1 locs ht hvm hw hB hz1 hk1 hS => ?_)
        obtain ⟨u60_0, u60_1⟩ := u60
        have hw : u60_0.toInt = x50.toInt + 1 ∧ iv u60_0 1 100 ∧ (∀ j, iv (u60_1 j) (-128) 127) ∧ True := hw
        obtain ⟨lu60_0, iu60_0, iu60_1, -⟩ := hw
        have mu60_0 : iv u60_0 1 96 := by have q9 := ix50; exact ⟨by omega, by omega⟩
        obtain ⟨hP1, hK1, hD1⟩ := hB
        rw [ht] at hP1
        have hK1 := va_K.moved hvm.symm hK1
        obtain ⟨hP, hD⟩ := nv_join (wf := [(h0, .inr (12, .int x1 :: .ref h1 :: .ref h2 :: .int x2 :: .int x3 :: .int x4 :: .int x5 :: .int x6 :: .int x7 :: .int x8 :: .int x9 :: .int x10 :: [.int x11, .int x12, .int x13, .int x14, .int x15, .int x16, .ref h3, .ref h4, .ref h5, .ref h6, .int x17, .int x18, .int x19, .int x20, .int x21, .int x22, .int x23, .int x24, .ref h7, .int x25, .int x26, .int x27, .int x28, .ref h8, .ref h9, .int x29, .int x30, .long z0, .int x31, .int x32, .ref h10, .ref h11, .ref h12, .ref h13, .ref h14, .int x33, .int x34, .int x35, .int x36, .int x37, .int x38, .int x39, .int x40, .int x41, .ref h15, .ref h16, .int x42, .int x43, .int x44, .int x45, .int x46, .int x47, .int x48, .int x49, .ref h17, .int u60_0, .int x51, .int x52, .int x53, .int x54])), (h17, .inl (y0, 100, .inl u60_1))]) hP hD [0, 1] [] rfl rfl (by decide) (by decide) hk1 hFc hP1 hD1 rfl
        have hK := (hK.sub (tys' := []) [] rfl).app hK1
        generalize H1 = H at hP hS ⊢
        have hK : va_K (dC, dI) vwCl [(y0, .byte)] s := hK
        clear hKc hPc hDc hFc hP1 hD1 hK1 hk1 hz1
        refine lv_iload_n hx hb dX12_sayNumber_39 rfl (lv_at hl 0 rfl) ?_
        refine lv_bipush (v := 10) hx hb dX12_sayNumber_40 (by decide) ?_
        refine lv_idiv hx hb dX12_sayNumber_42 (by decide) ?_
        refine lv_val (y := 10) (by decide +kernel) ?_
        refine lv_istore_n (lv' := [(2, .int 10), (0, .ref h0), (1, .int x0)]) hx hb dX12_sayNumber_43 rfl hl (by decide) rfl (fun ls hl => ?_)
        refine lv_goto (tgt := 22) hx hb dX12_sayNumber_44 (by decide) ?_
        refine lv_iload_n hx hb dX12_sayNumber_22 rfl (lv_at hl 0 rfl) ?_
        refine lv_if_le (tgt := 47) hx hb dX12_sayNumber_23 (by decide) (fun c => absurd c (by decide)) (fun _ => ?_)
        refine lv_aload_n hx hb dX12_sayNumber_26 rfl (lv_at hl 1 rfl) ?_
        refine lv_bipush (v := 48) hx hb dX12_sayNumber_27 (by decide) ?_
        refine lv_iload_n hx hb dX12_sayNumber_29 rfl (lv_at hl 2 rfl) ?_
        refine lv_iload_n hx hb dX12_sayNumber_30 rfl (lv_at hl 0 rfl) ?_
        refine lv_idiv hx hb dX12_sayNumber_31 (by decide) ?_
        refine lv_topi (fun v61 ev61 => ?_)
        refine lv_bipush (v := 10) hx hb dX12_sayNumber_32 (by decide) ?_
        refine lv_irem hx hb dX12_sayNumber_34 (by decide) ?_
        refine lv_topi (fun v62 ev62 => ?_)
        refine lv_iadd hx hb dX12_sayNumber_35 ?_
        refine lv_topi (fun v63 ev63 => ?_)
        obtain ⟨hPc, hDc, hFc⟩ := nv_sub3 (wc := [(h0, .inr (12, .int x1 :: .ref h1 :: .ref h2 :: .int x2 :: .int x3 :: .int x4 :: .int x5 :: .int x6 :: .int x7 :: .int x8 :: .int x9 :: .int x10 :: [.int x11, .int x12, .int x13, .int x14, .int x15, .int x16, .ref h3, .ref h4, .ref h5, .ref h6, .int x17, .int x18, .int x19, .int x20, .int x21, .int x22, .int x23, .int x24, .ref h7, .int x25, .int x26, .int x27, .int x28, .ref h8, .ref h9, .int x29, .int x30, .long z0, .int x31, .int x32, .ref h10, .ref h11, .ref h12, .ref h13, .ref h14, .int x33, .int x34, .int x35, .int x36, .int x37, .int x38, .int x39, .int x40, .int x41, .ref h15, .ref h16, .int x42, .int x43, .int x44, .int x45, .int x46, .int x47, .int x48, .int x49, .ref h17, .int u60_0, .int x51, .int x52, .int x53, .int x54])), (h17, .inl (y0, 100, .inl u60_1))]) hP hD hS hA [0, 1] (by decide) rfl
        have hKc := hK.sub (tys' := [(y0, .byte)]) [0] rfl
        refine va_callv (va_runV (As := [.int v63]) (rest := []) ⟨hx, hb, hml, hown, hG⟩ (cX12_say_1 l dC dI h0 h1 h2 h3 h4 h5 h6 h7 h8 h9 h10 h11 h12 h13 h14 h15 h16 h17 y0 H.size v63 x1 x2 x3 x4 x5 x6 x7 x8 x9 x10 x11 x12 x13 x14 x15 x16 x17 x18 x19 x20 x21 x22 x23 x24 x25 x26 x27 x28 x29 x30 x31 x32 x33 x34 x35 x36 x37 x38 x39 x40 x41 x42 x43 x44 x45 x46 x47 x48 x49 u60_0 x51 x52 x53 x54 z0 u60_1 ix16 ix17 ix22 ix23 ix24 ix25 ix26 ix27 ix28 ix32 ix33 ix34 ix35 ix36 ix37 ix42 ix43 ix47 ix48 (iv_w mu60_0 (by decide) (by decide)) ix54 iu60_1) (cwV 1 hG (gV wd_1834 wd_1836 wp_122 wd_17 wd_1837) rfl rfl rfl (by decide +kernel) ⟨Nat.le_of_ble_eq_true rfl, Nat.le_of_ble_eq_true rfl⟩) ⟨fun a U g mk q => by obtain ⟨q0, q1, qP, qK, qD⟩ := q; exact ⟨q0, q1, qP, va_K.moved (u := U) (U := U.calling g mk a) (Vm.Alike.refl U.vm) qK, qD⟩, va_recv hKc hPc (ci := 12) (q0 := 0) rfl rfl, fun U hU hW => ⟨rfl, by rw [hU], by rw [hU]; exact hPc, va_K.moved hW.alike hKc, hDc.weaken (fun _ _ _ _ => trivial)⟩⟩ rfl rfl hl.1 rfl (lv_room (Nat.le_of_ble_eq_true rfl)) dX12_sayNumber_36 ⟨by decide, by decide⟩) hS (fun q _ h => hFc q h) hFc (fun u65 t H1 locs ht hvm hw hB hz1 hk1 hS => ?_)
        obtain ⟨u65_0, u65_1⟩ := u65
        have hw : u65_0.toInt = u60_0.toInt + 1 ∧ iv u65_0 1 100 ∧ (∀ j, iv (u65_1 j) (-128) 127) ∧ True := hw
        obtain ⟨lu65_0, iu65_0, iu65_1, -⟩ := hw
        have mu65_0 : iv u65_0 2 97 := by have q9 := mu60_0; exact ⟨by omega, by omega⟩
        obtain ⟨hP1, hK1, hD1⟩ := hB
        rw [ht] at hP1
        have hK1 := va_K.moved hvm.symm hK1
        obtain ⟨hP, hD⟩ := nv_join (wf := [(h0, .inr (12, .int x1 :: .ref h1 :: .ref h2 :: .int x2 :: .int x3 :: .int x4 :: .int x5 :: .int x6 :: .int x7 :: .int x8 :: .int x9 :: .int x10 :: [.int x11, .int x12, .int x13, .int x14, .int x15, .int x16, .ref h3, .ref h4, .ref h5, .ref h6, .int x17, .int x18, .int x19, .int x20, .int x21, .int x22, .int x23, .int x24, .ref h7, .int x25, .int x26, .int x27, .int x28, .ref h8, .ref h9, .int x29, .int x30, .long z0, .int x31, .int x32, .ref h10, .ref h11, .ref h12, .ref h13, .ref h14, .int x33, .int x34, .int x35, .int x36, .int x37, .int x38, .int x39, .int x40, .int x41, .ref h15, .ref h16, .int x42, .int x43, .int x44, .int x45, .int x46, .int x47, .int x48, .int x49, .ref h17, .int u65_0, .int x51, .int x52, .int x53, .int x54])), (h17, .inl (y0, 100, .inl u65_1))]) hP hD [0, 1] [] rfl rfl (by decide) (by decide) hk1 hFc hP1 hD1 rfl
        have hK := (hK.sub (tys' := []) [] rfl).app hK1
        generalize H1 = H at hP hS ⊢
        have hK : va_K (dC, dI) vwCl [(y0, .byte)] s := hK
        clear hKc hPc hDc hFc hP1 hD1 hK1 hk1 hz1
        refine lv_iload_n hx hb dX12_sayNumber_39 rfl (lv_at hl 0 rfl) ?_
        refine lv_bipush (v := 10) hx hb dX12_sayNumber_40 (by decide) ?_
        refine lv_idiv hx hb dX12_sayNumber_42 (by decide) ?_
        refine lv_val (y := 1) (by decide +kernel) ?_
        refine lv_istore_n (lv' := [(2, .int 1), (0, .ref h0), (1, .int x0)]) hx hb dX12_sayNumber_43 rfl hl (by decide) rfl (fun ls hl => ?_)
        refine lv_goto (tgt := 22) hx hb dX12_sayNumber_44 (by decide) ?_
        refine lv_iload_n hx hb dX12_sayNumber_22 rfl (lv_at hl 0 rfl) ?_
        refine lv_if_le (tgt := 47) hx hb dX12_sayNumber_23 (by decide) (fun c => absurd c (by decide)) (fun _ => ?_)
        refine lv_aload_n hx hb dX12_sayNumber_26 rfl (lv_at hl 1 rfl) ?_
        refine lv_bipush (v := 48) hx hb dX12_sayNumber_27 (by decide) ?_
        refine lv_iload_n hx hb dX12_sayNumber_29 rfl (lv_at hl 2 rfl) ?_
        refine lv_iload_n hx hb dX12_sayNumber_30 rfl (lv_at hl 0 rfl) ?_
        refine lv_idiv hx hb dX12_sayNumber_31 (by decide) ?_
        refine lv_topi (fun v66 ev66 => ?_)
        refine lv_bipush (v := 10) hx hb dX12_sayNumber_32 (by decide) ?_
        refine lv_irem hx hb dX12_sayNumber_34 (by decide) ?_
        refine lv_topi (fun v67 ev67 => ?_)
        refine lv_iadd hx hb dX12_sayNumber_35 ?_
        refine lv_topi (fun v68 ev68 => ?_)
        obtain ⟨hPc, hDc, hFc⟩ := nv_sub3 (wc := [(h0, .inr (12, .int x1 :: .ref h1 :: .ref h2 :: .int x2 :: .int x3 :: .int x4 :: .int x5 :: .int x6 :: .int x7 :: .int x8 :: .int x9 :: .int x10 :: [.int x11, .int x12, .int x13, .int x14, .int x15, .int x16, .ref h3, .ref h4, .ref h5, .ref h6, .int x17, .int x18, .int x19, .int x20, .int x21, .int x22, .int x23, .int x24, .ref h7, .int x25, .int x26, .int x27, .int x28, .ref h8, .ref h9, .int x29, .int x30, .long z0, .int x31, .int x32, .ref h10, .ref h11, .ref h12, .ref h13, .ref h14, .int x33, .int x34, .int x35, .int x36, .int x37, .int x38, .int x39, .int x40, .int x41, .ref h15, .ref h16, .int x42, .int x43, .int x44, .int x45, .int x46, .int x47, .int x48, .int x49, .ref h17, .int u65_0, .int x51, .int x52, .int x53, .int x54])), (h17, .inl (y0, 100, .inl u65_1))]) hP hD hS hA [0, 1] (by decide) rfl
        have hKc := hK.sub (tys' := [(y0, .byte)]) [0] rfl
        refine va_callv (va_runV (As := [.int v68]) (rest := []) ⟨hx, hb, hml, hown, hG⟩ (cX12_say_1 l dC dI h0 h1 h2 h3 h4 h5 h6 h7 h8 h9 h10 h11 h12 h13 h14 h15 h16 h17 y0 H.size v68 x1 x2 x3 x4 x5 x6 x7 x8 x9 x10 x11 x12 x13 x14 x15 x16 x17 x18 x19 x20 x21 x22 x23 x24 x25 x26 x27 x28 x29 x30 x31 x32 x33 x34 x35 x36 x37 x38 x39 x40 x41 x42 x43 x44 x45 x46 x47 x48 x49 u65_0 x51 x52 x53 x54 z0 u65_1 ix16 ix17 ix22 ix23 ix24 ix25 ix26 ix27 ix28 ix32 ix33 ix34 ix35 ix36 ix37 ix42 ix43 ix47 ix48 (iv_w mu65_0 (by decide) (by decide)) ix54 iu65_1) (cwV 1 hG (gV wd_1834 wd_1836 wp_122 wd_17 wd_1837) rfl rfl rfl (by decide +kernel) ⟨Nat.le_of_ble_eq_true rfl, Nat.le_of_ble_eq_true rfl⟩) ⟨fun a U g mk q => by obtain ⟨q0, q1, qP, qK, qD⟩ := q; exact ⟨q0, q1, qP, va_K.moved (u := U) (U := U.calling g mk a) (Vm.Alike.refl U.vm) qK, qD⟩, va_recv hKc hPc (ci := 12) (q0 := 0) rfl rfl, fun U hU hW => ⟨rfl, by rw [hU], by rw [hU]; exact hPc, va_K.moved hW.alike hKc, hDc.weaken (fun _ _ _ _ => trivial)⟩⟩ rfl rfl hl.1 rfl (lv_room (Nat.le_of_ble_eq_true rfl)) dX12_sayNumber_36 ⟨by decide, by decide⟩) hS (fun q _ h => hFc q h) hFc (fun u70 t H1 locs ht hvm hw hB hz1 hk1 hS => ?_)
        obtain ⟨u70_0, u70_1⟩ := u70
        have hw : u70_0.toInt = u65_0.toInt + 1 ∧ iv u70_0 1 100 ∧ (∀ j, iv (u70_1 j) (-128) 127) ∧ True := hw
        obtain ⟨lu70_0, iu70_0, iu70_1, -⟩ := hw
        have mu70_0 : iv u70_0 3 98 := by have q9 := mu65_0; exact ⟨by omega, by omega⟩
        obtain ⟨hP1, hK1, hD1⟩ := hB
        rw [ht] at hP1
        have hK1 := va_K.moved hvm.symm hK1
        obtain ⟨hP, hD⟩ := nv_join (wf := [(h0, .inr (12, .int x1 :: .ref h1 :: .ref h2 :: .int x2 :: .int x3 :: .int x4 :: .int x5 :: .int x6 :: .int x7 :: .int x8 :: .int x9 :: .int x10 :: [.int x11, .int x12, .int x13, .int x14, .int x15, .int x16, .ref h3, .ref h4, .ref h5, .ref h6, .int x17, .int x18, .int x19, .int x20, .int x21, .int x22, .int x23, .int x24, .ref h7, .int x25, .int x26, .int x27, .int x28, .ref h8, .ref h9, .int x29, .int x30, .long z0, .int x31, .int x32, .ref h10, .ref h11, .ref h12, .ref h13, .ref h14, .int x33, .int x34, .int x35, .int x36, .int x37, .int x38, .int x39, .int x40, .int x41, .ref h15, .ref h16, .int x42, .int x43, .int x44, .int x45, .int x46, .int x47, .int x48, .int x49, .ref h17, .int u70_0, .int x51, .int x52, .int x53, .int x54])), (h17, .inl (y0, 100, .inl u70_1))]) hP hD [0, 1] [] rfl rfl (by decide) (by decide) hk1 hFc hP1 hD1 rfl
        have hK := (hK.sub (tys' := []) [] rfl).app hK1
        generalize H1 = H at hP hS ⊢
        have hK : va_K (dC, dI) vwCl [(y0, .byte)] s := hK
        clear hKc hPc hDc hFc hP1 hD1 hK1 hk1 hz1
        refine lv_iload_n hx hb dX12_sayNumber_39 rfl (lv_at hl 0 rfl) ?_
        refine lv_bipush (v := 10) hx hb dX12_sayNumber_40 (by decide) ?_
        refine lv_idiv hx hb dX12_sayNumber_42 (by decide) ?_
        refine lv_val (y := 0) (by decide +kernel) ?_
        refine lv_istore_n (lv' := [(2, .int 0), (0, .ref h0), (1, .int x0)]) hx hb dX12_sayNumber_43 rfl hl (by decide) rfl (fun ls hl => ?_)
        refine lv_goto (tgt := 22) hx hb dX12_sayNumber_44 (by decide) ?_
        refine lv_iload_n hx hb dX12_sayNumber_22 rfl (lv_at hl 0 rfl) ?_
        refine lv_if_le (tgt := 47) hx hb dX12_sayNumber_23 (by decide) (fun _ => ?_) (fun c => absurd (by decide) c)
        rw [hQ]
        obtain ⟨hP9, hD9⟩ := nv_sub2 (wc := [(h0, .inr (12, .int x1 :: .ref h1 :: .ref h2 :: .int x2 :: .int x3 :: .int x4 :: .int x5 :: .int x6 :: .int x7 :: .int x8 :: .int x9 :: .int x10 :: [.int x11, .int x12, .int x13, .int x14, .int x15, .int x16, .ref h3, .ref h4, .ref h5, .ref h6, .int x17, .int x18, .int x19, .int x20, .int x21, .int x22, .int x23, .int x24, .ref h7, .int x25, .int x26, .int x27, .int x28, .ref h8, .ref h9, .int x29, .int x30, .long z0, .int x31, .int x32, .ref h10, .ref h11, .ref h12, .ref h13, .ref h14, .int x33, .int x34, .int x35, .int x36, .int x37, .int x38, .int x39, .int x40, .int x41, .ref h15, .ref h16, .int x42, .int x43, .int x44, .int x45, .int x46, .int x47, .int x48, .int x49, .ref h17, .int u70_0, .int x51, .int x52, .int x53, .int x54])), (h17, .inl (y0, 100, .inl u70_1))]) hP hD [0, 1] (by decide) rfl
        have hK9 := hK.sub (tys' := [(y0, .byte)]) [0] rfl
        have oh71 : u70_0.toInt ≤ x50.toInt + 5 := by omega
        exact W.vret hx hb hr (fun t ht hW => ⟨⟨(u70_0, u70_1), rfl, ⟨iv_w mu70_0 (by decide) (by decide), (fun j => iv_w (iu70_1 j) (by decide) (by decide)), oh71, trivial⟩, by rw [ht]; exact hP9, va_K.moved hW.alike hK9, hD9⟩, hS.F ht⟩) hS.2.2 dX12_sayNumber_47
      · skip
        have j72 : iv x0 (-2147483648) 99 := iv_nleR (by decide : iv 100 100 100) j53 c54 (by decide)
        refine lv_iload_n hx hb dX12_sayNumber_14 rfl (lv_at hl 0 rfl) ?_
        refine lv_bipush (v := 10) hx hb dX12_sayNumber_15 (by decide) ?_
        refine lv_idiv hx hb dX12_sayNumber_17 (by decide) ?_
        refine lv_val (y := 10) (by decide +kernel) ?_
        refine lv_istore_n (lv' := [(2, .int 10), (0, .ref h0), (1, .int x0)]) hx hb dX12_sayNumber_18 rfl hl (by decide) rfl (fun ls hl => ?_)
        refine lv_goto (tgt := 4) hx hb dX12_sayNumber_19 (by decide) ?_
        refine lv_iload_n hx hb dX12_sayNumber_4 rfl (lv_at hl 0 rfl) ?_
        refine lv_iconst (v := 1) hx hb dX12_sayNumber_5 (by decide) ?_
        refine lv_icmp_le (tgt := 22) hx hb dX12_sayNumber_6 (by decide) (fun c => absurd c (by decide)) (fun _ => ?_)
        refine lv_iload_n hx hb dX12_sayNumber_9 rfl (lv_at hl 2 rfl) ?_
        refine lv_iload_n hx hb dX12_sayNumber_10 rfl (lv_at hl 0 rfl) ?_
        refine lv_icmp_ge (tgt := 22) hx hb dX12_sayNumber_11 (by decide) (fun c73 => ?_) (fun c73 => ?_)
        · skip
          have j74 : iv x0 10 99 := iv_leR (by decide : iv 10 10 10) j72 c73 (by decide)
          refine lv_iload_n hx hb dX12_sayNumber_22 rfl (lv_at hl 0 rfl) ?_
          refine lv_if_le (tgt := 47) hx hb dX12_sayNumber_23 (by decide) (fun c => absurd c (by decide)) (fun _ => ?_)
          refine lv_aload_n hx hb dX12_sayNumber_26 rfl (lv_at hl 1 rfl) ?_
          refine lv_bipush (v := 48) hx hb dX12_sayNumber_27 (by decide) ?_
          refine lv_iload_n hx hb dX12_sayNumber_29 rfl (lv_at hl 2 rfl) ?_
          refine lv_iload_n hx hb dX12_sayNumber_30 rfl (lv_at hl 0 rfl) ?_
          refine lv_idiv hx hb dX12_sayNumber_31 (by decide) ?_
          refine lv_topi (fun v75 ev75 => ?_)
          refine lv_bipush (v := 10) hx hb dX12_sayNumber_32 (by decide) ?_
          refine lv_irem hx hb dX12_sayNumber_34 (by decide) ?_
          refine lv_topi (fun v76 ev76 => ?_)
          refine lv_iadd hx hb dX12_sayNumber_35 ?_
          refine lv_topi (fun v77 ev77 => ?_)
          obtain ⟨hPc, hDc, hFc⟩ := nv_sub3 (wc := [(h0, .inr (12, .int x1 :: .ref h1 :: .ref h2 :: .int x2 :: .int x3 :: .int x4 :: .int x5 :: .int x6 :: .int x7 :: .int x8 :: .int x9 :: .int x10 :: [.int x11, .int x12, .int x13, .int x14, .int x15, .int x16, .ref h3, .ref h4, .ref h5, .ref h6, .int x17, .int x18, .int x19, .int x20, .int x21, .int x22, .int x23, .int x24, .ref h7, .int x25, .int x26, .int x27, .int x28, .ref h8, .ref h9, .int x29, .int x30, .long z0, .int x31, .int x32, .ref h10, .ref h11, .ref h12, .ref h13, .ref h14, .int x33, .int x34, .int x35, .int x36, .int x37, .int x38, .int x39, .int x40, .int x41, .ref h15, .ref h16, .int x42, .int x43, .int x44, .int x45, .int x46, .int x47, .int x48, .int x49, .ref h17, .int x50, .int x51, .int x52, .int x53, .int x54])), (h17, .inl (y0, 100, .inl f0))]) hP hD hS hA [0, 1] (by decide) rfl
          have hKc := hK.sub (tys' := [(y0, .byte)]) [0] rfl
          refine va_callv (va_runV (As := [.int v77]) (rest := []) ⟨hx, hb, hml, hown, hG⟩ (cX12_say_1 l dC dI h0 h1 h2 h3 h4 h5 h6 h7 h8 h9 h10 h11 h12 h13 h14 h15 h16 h17 y0 s.heap.size v77 x1 x2 x3 x4 x5 x6 x7 x8 x9 x10 x11 x12 x13 x14 x15 x16 x17 x18 x19 x20 x21 x22 x23 x24 x25 x26 x27 x28 x29 x30 x31 x32 x33 x34 x35 x36 x37 x38 x39 x40 x41 x42 x43 x44 x45 x46 x47 x48 x49 x50 x51 x52 x53 x54 z0 f0 ix16 ix17 ix22 ix23 ix24 ix25 ix26 ix27 ix28 ix32 ix33 ix34 ix35 ix36 ix37 ix42 ix43 ix47 ix48 (iv_w ix50 (by decide) (by decide)) ix54 if0) (cwV 1 hG (gV wd_1834 wd_1836 wp_122 wd_17 wd_1837) rfl rfl rfl (by decide +kernel) ⟨Nat.le_of_ble_eq_true rfl, Nat.le_of_ble_eq_true rfl⟩) ⟨fun a U g mk q => by obtain ⟨q0, q1, qP, qK, qD⟩ := q; exact ⟨q0, q1, qP, va_K.moved (u := U) (U := U.calling g mk a) (Vm.Alike.refl U.vm) qK, qD⟩, va_recv hKc hPc (ci := 12) (q0 := 0) rfl rfl, fun U hU hW => ⟨rfl, by rw [hU], by rw [hU]; exact hPc, va_K.moved hW.alike hKc, hDc.weaken (fun _ _ _ _ => trivial)⟩⟩ rfl rfl hl.1 rfl (lv_room (Nat.le_of_ble_eq_true rfl)) dX12_sayNumber_36 ⟨by decide, by decide⟩) hS (fun q _ h => hFc q h) hFc (fun u79 t H1 locs ht hvm hw hB hz1 hk1 hS => ?_)
          obtain ⟨u79_0, u79_1⟩ := u79
          have hw : u79_0.toInt = x50.toInt + 1 ∧ iv u79_0 1 100 ∧ (∀ j, iv (u79_1 j) (-128) 127) ∧ True := hw
          obtain ⟨lu79_0, iu79_0, iu79_1, -⟩ := hw
          have mu79_0 : iv u79_0 1 96 := by have q9 := ix50; exact ⟨by omega, by omega⟩
          obtain ⟨hP1, hK1, hD1⟩ := hB
          rw [ht] at hP1
          have hK1 := va_K.moved hvm.symm hK1
          obtain ⟨hP, hD⟩ := nv_join (wf := [(h0, .inr (12, .int x1 :: .ref h1 :: .ref h2 :: .int x2 :: .int x3 :: .int x4 :: .int x5 :: .int x6 :: .int x7 :: .int x8 :: .int x9 :: .int x10 :: [.int x11, .int x12, .int x13, .int x14, .int x15, .int x16, .ref h3, .ref h4, .ref h5, .ref h6, .int x17, .int x18, .int x19, .int x20, .int x21, .int x22, .int x23, .int x24, .ref h7, .int x25, .int x26, .int x27, .int x28, .ref h8, .ref h9, .int x29, .int x30, .long z0, .int x31, .int x32, .ref h10, .ref h11, .ref h12, .ref h13, .ref h14, .int x33, .int x34, .int x35, .int x36, .int x37, .int x38, .int x39, .int x40, .int x41, .ref h15, .ref h16, .int x42, .int x43, .int x44, .int x45, .int x46, .int x47, .int x48, .int x49, .ref h17, .int u79_0, .int x51, .int x52, .int x53, .int x54])), (h17, .inl (y0, 100, .inl u79_1))]) hP hD [0, 1] [] rfl rfl (by decide) (by decide) hk1 hFc hP1 hD1 rfl
          have hK := (hK.sub (tys' := []) [] rfl).app hK1
          generalize H1 = H at hP hS ⊢
          have hK : va_K (dC, dI) vwCl [(y0, .byte)] s := hK
          clear hKc hPc hDc hFc hP1 hD1 hK1 hk1 hz1
          refine lv_iload_n hx hb dX12_sayNumber_39 rfl (lv_at hl 0 rfl) ?_
          refine lv_bipush (v := 10) hx hb dX12_sayNumber_40 (by decide) ?_
          refine lv_idiv hx hb dX12_sayNumber_42 (by decide) ?_
          refine lv_val (y := 1) (by decide +kernel) ?_
          refine lv_istore_n (lv' := [(2, .int 1), (0, .ref h0), (1, .int x0)]) hx hb dX12_sayNumber_43 rfl hl (by decide) rfl (fun ls hl => ?_)
          refine lv_goto (tgt := 22) hx hb dX12_sayNumber_44 (by decide) ?_
          refine lv_iload_n hx hb dX12_sayNumber_22 rfl (lv_at hl 0 rfl) ?_
          refine lv_if_le (tgt := 47) hx hb dX12_sayNumber_23 (by decide) (fun c => absurd c (by decide)) (fun _ => ?_)
          refine lv_aload_n hx hb dX12_sayNumber_26 rfl (lv_at hl 1 rfl) ?_
          refine lv_bipush (v := 48) hx hb dX12_sayNumber_27 (by decide) ?_
          refine lv_iload_n hx hb dX12_sayNumber_29 rfl (lv_at hl 2 rfl) ?_
          refine lv_iload_n hx hb dX12_sayNumber_30 rfl (lv_at hl 0 rfl) ?_
          refine lv_idiv hx hb dX12_sayNumber_31 (by decide) ?_
          refine lv_topi (fun v80 ev80 => ?_)
          refine lv_bipush (v := 10) hx hb dX12_sayNumber_32 (by decide) ?_
          refine lv_irem hx hb dX12_sayNumber_34 (by decide) ?_
          refine lv_topi (fun v81 ev81 => ?_)
          refine lv_iadd hx hb dX12_sayNumber_35 ?_
          refine lv_topi (fun v82 ev82 => ?_)
          obtain ⟨hPc, hDc, hFc⟩ := nv_sub3 (wc := [(h0, .inr (12, .int x1 :: .ref h1 :: .ref h2 :: .int x2 :: .int x3 :: .int x4 :: .int x5 :: .int x6 :: .int x7 :: .int x8 :: .int x9 :: .int x10 :: [.int x11, .int x12, .int x13, .int x14, .int x15, .int x16, .ref h3, .ref h4, .ref h5, .ref h6, .int x17, .int x18, .int x19, .int x20, .int x21, .int x22, .int x23, .int x24, .ref h7, .int x25, .int x26, .int x27, .int x28, .ref h8, .ref h9, .int x29, .int x30, .long z0, .int x31, .int x32, .ref h10, .ref h11, .ref h12, .ref h13, .ref h14, .int x33, .int x34, .int x35, .int x36, .int x37, .int x38, .int x39, .int x40, .int x41, .ref h15, .ref h16, .int x42, .int x43, .int x44, .int x45, .int x46, .int x47, .int x48, .int x49, .ref h17, .int u79_0, .int x51, .int x52, .int x53, .int x54])), (h17, .inl (y0, 100, .inl u79_1))]) hP hD hS hA [0, 1] (by decide) rfl
          have hKc := hK.sub (tys' := [(y0, .byte)]) [0] rfl
          refine va_callv (va_runV (As := [.int v82]) (rest := []) ⟨hx, hb, hml, hown, hG⟩ (cX12_say_1 l dC dI h0 h1 h2 h3 h4 h5 h6 h7 h8 h9 h10 h11 h12 h13 h14 h15 h16 h17 y0 H.size v82 x1 x2 x3 x4 x5 x6 x7 x8 x9 x10 x11 x12 x13 x14 x15 x16 x17 x18 x19 x20 x21 x22 x23 x24 x25 x26 x27 x28 x29 x30 x31 x32 x33 x34 x35 x36 x37 x38 x39 x40 x41 x42 x43 x44 x45 x46 x47 x48 x49 u79_0 x51 x52 x53 x54 z0 u79_1 ix16 ix17 ix22 ix23 ix24 ix25 ix26 ix27 ix28 ix32 ix33 ix34 ix35 ix36 ix37 ix42 ix43 ix47 ix48 (iv_w mu79_0 (by decide) (by decide)) ix54 iu79_1) (cwV 1 hG (gV wd_1834 wd_1836 wp_122 wd_17 wd_1837) rfl rfl rfl (by decide +kernel) ⟨Nat.le_of_ble_eq_true rfl, Nat.le_of_ble_eq_true rfl⟩) ⟨fun a U g mk q => by obtain ⟨q0, q1, qP, qK, qD⟩ := q; exact ⟨q0, q1, qP, va_K.moved (u := U) (U := U.calling g mk a) (Vm.Alike.refl U.vm) qK, qD⟩, va_recv hKc hPc (ci := 12) (q0 := 0) rfl rfl, fun U hU hW => ⟨rfl, by rw [hU], by rw [hU]; exact hPc, va_K.moved hW.alike hKc, hDc.weaken (fun _ _ _ _ => trivial)⟩⟩ rfl rfl hl.1 rfl (lv_room (Nat.le_of_ble_eq_true rfl)) dX12_sayNumber_36 ⟨by decide, by decide⟩) hS (fun q _ h => hFc q h) hFc (fun u84 t H1 locs ht hvm hw hB hz1 hk1 hS => ?_)
          obtain ⟨u84_0, u84_1⟩ := u84
          have hw : u84_0.toInt = u79_0.toInt + 1 ∧ iv u84_0 1 100 ∧ (∀ j, iv (u84_1 j) (-128) 127) ∧ True := hw
          obtain ⟨lu84_0, iu84_0, iu84_1, -⟩ := hw
          have mu84_0 : iv u84_0 2 97 := by have q9 := mu79_0; exact ⟨by omega, by omega⟩
          obtain ⟨hP1, hK1, hD1⟩ := hB
          rw [ht] at hP1
          have hK1 := va_K.moved hvm.symm hK1
          obtain ⟨hP, hD⟩ := nv_join (wf := [(h0, .inr (12, .int x1 :: .ref h1 :: .ref h2 :: .int x2 :: .int x3 :: .int x4 :: .int x5 :: .int x6 :: .int x7 :: .int x8 :: .int x9 :: .int x10 :: [.int x11, .int x12, .int x13, .int x14, .int x15, .int x16, .ref h3, .ref h4, .ref h5, .ref h6, .int x17, .int x18, .int x19, .int x20, .int x21, .int x22, .int x23, .int x24, .ref h7, .int x25, .int x26, .int x27, .int x28, .ref h8, .ref h9, .int x29, .int x30, .long z0, .int x31, .int x32, .ref h10, .ref h11, .ref h12, .ref h13, .ref h14, .int x33, .int x34, .int x35, .int x36, .int x37, .int x38, .int x39, .int x40, .int x41, .ref h15, .ref h16, .int x42, .int x43, .int x44, .int x45, .int x46, .int x47, .int x48, .int x49, .ref h17, .int u84_0, .int x51, .int x52, .int x53, .int x54])), (h17, .inl (y0, 100, .inl u84_1))]) hP hD [0, 1] [] rfl rfl (by decide) (by decide) hk1 hFc hP1 hD1 rfl
          have hK := (hK.sub (tys' := []) [] rfl).app hK1
          generalize H1 = H at hP hS ⊢
          have hK : va_K (dC, dI) vwCl [(y0, .byte)] s := hK
          clear hKc hPc hDc hFc hP1 hD1 hK1 hk1 hz1
          refine lv_iload_n hx hb dX12_sayNumber_39 rfl (lv_at hl 0 rfl) ?_
          refine lv_bipush (v := 10) hx hb dX12_sayNumber_40 (by decide) ?_
          refine lv_idiv hx hb dX12_sayNumber_42 (by decide) ?_
          refine lv_val (y := 0) (by decide +kernel) ?_
          refine lv_istore_n (lv' := [(2, .int 0), (0, .ref h0), (1, .int x0)]) hx hb dX12_sayNumber_43 rfl hl (by decide) rfl (fun ls hl => ?_)
          refine lv_goto (tgt := 22) hx hb dX12_sayNumber_44 (by decide) ?_
          refine lv_iload_n hx hb dX12_sayNumber_22 rfl (lv_at hl 0 rfl) ?_
          refine lv_if_le (tgt := 47) hx hb dX12_sayNumber_23 (by decide) (fun _ => ?_) (fun c => absurd (by decide) c)
          rw [hQ]
          obtain ⟨hP9, hD9⟩ := nv_sub2 (wc := [(h0, .inr (12, .int x1 :: .ref h1 :: .ref h2 :: .int x2 :: .int x3 :: .int x4 :: .int x5 :: .int x6 :: .int x7 :: .int x8 :: .int x9 :: .int x10 :: [.int x11, .int x12, .int x13, .int x14, .int x15, .int x16, .ref h3, .ref h4, .ref h5, .ref h6, .int x17, .int x18, .int x19, .int x20, .int x21, .int x22, .int x23, .int x24, .ref h7, .int x25, .int x26, .int x27, .int x28, .ref h8, .ref h9, .int x29, .int x30, .long z0, .int x31, .int x32, .ref h10, .ref h11, .ref h12, .ref h13, .ref h14, .int x33, .int x34, .int x35, .int x36, .int x37, .int x38, .int x39, .int x40, .int x41, .ref h15, .ref h16, .int x42, .int x43, .int x44, .int x45, .int x46, .int x47, .int x48, .int x49, .ref h17, .int u84_0, .int x51, .int x52, .int x53, .int x54])), (h17, .inl (y0, 100, .inl u84_1))]) hP hD [0, 1] (by decide) rfl
          have hK9 := hK.sub (tys' := [(y0, .byte)]) [0] rfl
          have oh85 : u84_0.toInt ≤ x50.toInt + 5 := by omega
          exact W.vret hx hb hr (fun t ht hW => ⟨⟨(u84_0, u84_1), rfl, ⟨iv_w mu84_0 (by decide) (by decide), (fun j => iv_w (iu84_1 j) (by decide) (by decide)), oh85, trivial⟩, by rw [ht]; exact hP9, va_K.moved hW.alike hK9, hD9⟩, hS.F ht⟩) hS.2.2 dX12_sayNumber_47
        · skip
          have j86 : iv x0 (-2147483648) 9 := iv_nleR (by decide : iv 10 10 10) j72 c73 (by decide)
          refine lv_iload_n hx hb dX12_sayNumber_14 rfl (lv_at hl 0 rfl) ?_
          refine lv_bipush (v := 10) hx hb dX12_sayNumber_15 (by decide) ?_
          refine lv_idiv hx hb dX12_sayNumber_17 (by decide) ?_
          refine lv_val (y := 1) (by decide +kernel) ?_
          refine lv_istore_n (lv' := [(2, .int 1), (0, .ref h0), (1, .int x0)]) hx hb dX12_sayNumber_18 rfl hl (by decide) rfl (fun ls hl => ?_)
          refine lv_goto (tgt := 4) hx hb dX12_sayNumber_19 (by decide) ?_
          refine lv_iload_n hx hb dX12_sayNumber_4 rfl (lv_at hl 0 rfl) ?_
          refine lv_iconst (v := 1) hx hb dX12_sayNumber_5 (by decide) ?_
          refine lv_icmp_le (tgt := 22) hx hb dX12_sayNumber_6 (by decide) (fun _ => ?_) (fun c => absurd (by decide) c)
          refine lv_iload_n hx hb dX12_sayNumber_22 rfl (lv_at hl 0 rfl) ?_
          refine lv_if_le (tgt := 47) hx hb dX12_sayNumber_23 (by decide) (fun c => absurd c (by decide)) (fun _ => ?_)
          refine lv_aload_n hx hb dX12_sayNumber_26 rfl (lv_at hl 1 rfl) ?_
          refine lv_bipush (v := 48) hx hb dX12_sayNumber_27 (by decide) ?_
          refine lv_iload_n hx hb dX12_sayNumber_29 rfl (lv_at hl 2 rfl) ?_
          refine lv_iload_n hx hb dX12_sayNumber_30 rfl (lv_at hl 0 rfl) ?_
          refine lv_idiv hx hb dX12_sayNumber_31 (by decide) ?_
          refine lv_topi (fun v87 ev87 => ?_)
          refine lv_bipush (v := 10) hx hb dX12_sayNumber_32 (by decide) ?_
          refine lv_irem hx hb dX12_sayNumber_34 (by decide) ?_
          refine lv_topi (fun v88 ev88 => ?_)
          refine lv_iadd hx hb dX12_sayNumber_35 ?_
          refine lv_topi (fun v89 ev89 => ?_)
          obtain ⟨hPc, hDc, hFc⟩ := nv_sub3 (wc := [(h0, .inr (12, .int x1 :: .ref h1 :: .ref h2 :: .int x2 :: .int x3 :: .int x4 :: .int x5 :: .int x6 :: .int x7 :: .int x8 :: .int x9 :: .int x10 :: [.int x11, .int x12, .int x13, .int x14, .int x15, .int x16, .ref h3, .ref h4, .ref h5, .ref h6, .int x17, .int x18, .int x19, .int x20, .int x21, .int x22, .int x23, .int x24, .ref h7, .int x25, .int x26, .int x27, .int x28, .ref h8, .ref h9, .int x29, .int x30, .long z0, .int x31, .int x32, .ref h10, .ref h11, .ref h12, .ref h13, .ref h14, .int x33, .int x34, .int x35, .int x36, .int x37, .int x38, .int x39, .int x40, .int x41, .ref h15, .ref h16, .int x42, .int x43, .int x44, .int x45, .int x46, .int x47, .int x48, .int x49, .ref h17, .int x50, .int x51, .int x52, .int x53, .int x54])), (h17, .inl (y0, 100, .inl f0))]) hP hD hS hA [0, 1] (by decide) rfl
          have hKc := hK.sub (tys' := [(y0, .byte)]) [0] rfl
          refine va_callv (va_runV (As := [.int v89]) (rest := []) ⟨hx, hb, hml, hown, hG⟩ (cX12_say_1 l dC dI h0 h1 h2 h3 h4 h5 h6 h7 h8 h9 h10 h11 h12 h13 h14 h15 h16 h17 y0 s.heap.size v89 x1 x2 x3 x4 x5 x6 x7 x8 x9 x10 x11 x12 x13 x14 x15 x16 x17 x18 x19 x20 x21 x22 x23 x24 x25 x26 x27 x28 x29 x30 x31 x32 x33 x34 x35 x36 x37 x38 x39 x40 x41 x42 x43 x44 x45 x46 x47 x48 x49 x50 x51 x52 x53 x54 z0 f0 ix16 ix17 ix22 ix23 ix24 ix25 ix26 ix27 ix28 ix32 ix33 ix34 ix35 ix36 ix37 ix42 ix43 ix47 ix48 (iv_w ix50 (by decide) (by decide)) ix54 if0) (cwV 1 hG (gV wd_1834 wd_1836 wp_122 wd_17 wd_1837) rfl rfl rfl (by decide +kernel) ⟨Nat.le_of_ble_eq_true rfl, Nat.le_of_ble_eq_true rfl⟩) ⟨fun a U g mk q => by obtain ⟨q0, q1, qP, qK, qD⟩ := q; exact ⟨q0, q1, qP, va_K.moved (u := U) (U := U.calling g mk a) (Vm.Alike.refl U.vm) qK, qD⟩, va_recv hKc hPc (ci := 12) (q0 := 0) rfl rfl, fun U hU hW => ⟨rfl, by rw [hU], by rw [hU]; exact hPc, va_K.moved hW.alike hKc, hDc.weaken (fun _ _ _ _ => trivial)⟩⟩ rfl rfl hl.1 rfl (lv_room (Nat.le_of_ble_eq_true rfl)) dX12_sayNumber_36 ⟨by decide, by decide⟩) hS (fun q _ h => hFc q h) hFc (fun u91 t H1 locs ht hvm hw hB hz1 hk1 hS => ?_)
          obtain ⟨u91_0, u91_1⟩ := u91
          have hw : u91_0.toInt = x50.toInt + 1 ∧ iv u91_0 1 100 ∧ (∀ j, iv (u91_1 j) (-128) 127) ∧ True := hw
          obtain ⟨lu91_0, iu91_0, iu91_1, -⟩ := hw
          have mu91_0 : iv u91_0 1 96 := by have q9 := ix50; exact ⟨by omega, by omega⟩
          obtain ⟨hP1, hK1, hD1⟩ := hB
          rw [ht] at hP1
          have hK1 := va_K.moved hvm.symm hK1
          obtain ⟨hP, hD⟩ := nv_join (wf := [(h0, .inr (12, .int x1 :: .ref h1 :: .ref h2 :: .int x2 :: .int x3 :: .int x4 :: .int x5 :: .int x6 :: .int x7 :: .int x8 :: .int x9 :: .int x10 :: [.int x11, .int x12, .int x13, .int x14, .int x15, .int x16, .ref h3, .ref h4, .ref h5, .ref h6, .int x17, .int x18, .int x19, .int x20, .int x21, .int x22, .int x23, .int x24, .ref h7, .int x25, .int x26, .int x27, .int x28, .ref h8, .ref h9, .int x29, .int x30, .long z0, .int x31, .int x32, .ref h10, .ref h11, .ref h12, .ref h13, .ref h14, .int x33, .int x34, .int x35, .int x36, .int x37, .int x38, .int x39, .int x40, .int x41, .ref h15, .ref h16, .int x42, .int x43, .int x44, .int x45, .int x46, .int x47, .int x48, .int x49, .ref h17, .int u91_0, .int x51, .int x52, .int x53, .int x54])), (h17, .inl (y0, 100, .inl u91_1))]) hP hD [0, 1] [] rfl rfl (by decide) (by decide) hk1 hFc hP1 hD1 rfl
          have hK := (hK.sub (tys' := []) [] rfl).app hK1
          generalize H1 = H at hP hS ⊢
          have hK : va_K (dC, dI) vwCl [(y0, .byte)] s := hK
          clear hKc hPc hDc hFc hP1 hD1 hK1 hk1 hz1
          refine lv_iload_n hx hb dX12_sayNumber_39 rfl (lv_at hl 0 rfl) ?_
          refine lv_bipush (v := 10) hx hb dX12_sayNumber_40 (by decide) ?_
          refine lv_idiv hx hb dX12_sayNumber_42 (by decide) ?_
          refine lv_val (y := 0) (by decide +kernel) ?_
          refine lv_istore_n (lv' := [(2, .int 0), (0, .ref h0), (1, .int x0)]) hx hb dX12_sayNumber_43 rfl hl (by decide) rfl (fun ls hl => ?_)
          refine lv_goto (tgt := 22) hx hb dX12_sayNumber_44 (by decide) ?_
          refine lv_iload_n hx hb dX12_sayNumber_22 rfl (lv_at hl 0 rfl) ?_
          refine lv_if_le (tgt := 47) hx hb dX12_sayNumber_23 (by decide) (fun _ => ?_) (fun c => absurd (by decide) c)
          rw [hQ]
          obtain ⟨hP9, hD9⟩ := nv_sub2 (wc := [(h0, .inr (12, .int x1 :: .ref h1 :: .ref h2 :: .int x2 :: .int x3 :: .int x4 :: .int x5 :: .int x6 :: .int x7 :: .int x8 :: .int x9 :: .int x10 :: [.int x11, .int x12, .int x13, .int x14, .int x15, .int x16, .ref h3, .ref h4, .ref h5, .ref h6, .int x17, .int x18, .int x19, .int x20, .int x21, .int x22, .int x23, .int x24, .ref h7, .int x25, .int x26, .int x27, .int x28, .ref h8, .ref h9, .int x29, .int x30, .long z0, .int x31, .int x32, .ref h10, .ref h11, .ref h12, .ref h13, .ref h14, .int x33, .int x34, .int x35, .int x36, .int x37, .int x38, .int x39, .int x40, .int x41, .ref h15, .ref h16, .int x42, .int x43, .int x44, .int x45, .int x46, .int x47, .int x48, .int x49, .ref h17, .int u91_0, .int x51, .int x52, .int x53, .int x54])), (h17, .inl (y0, 100, .inl u91_1))]) hP hD [0, 1] (by decide) rfl
          have hK9 := hK.sub (tys' := [(y0, .byte)]) [0] rfl
          have oh92 : u91_0.toInt ≤ x50.toInt + 5 := by omega
          exact W.vret hx hb hr (fun t ht hW => ⟨⟨(u91_0, u91_1), rfl, ⟨iv_w mu91_0 (by decide) (by decide), (fun j => iv_w (iu91_1 j) (by decide) (by decide)), oh92, trivial⟩, by rw [ht]; exact hP9, va_K.moved hW.alike hK9, hD9⟩, hS.F ht⟩) hS.2.2 dX12_sayNumber_47
set_option maxHeartbeats 100000000 in
set_option maxRecDepth 100000 in
theorem cX12_saySharp_1 (l : Launch) (dC : Nat → ClassId) (dI : Nat → Nat → Nat) (h0 h1 h2 h3 h4 h5 h6 h7 h8 h9 h10 h11 h12 h13 h14 h15 h16 h17 : Nat) (y0 : ClassId) (sz : Nat) (x0 x1 x2 x3 x4 x5 x6 x7 x8 x9 x10 x11 x12 x13 x14 x15 x16 x17 x18 x19 x20 x21 x22 x23 x24 x25 x26 x27 x28 x29 x30 x31 x32 x33 x34 x35 x36 x37 x38 x39 x40 x41 x42 x43 x44 x45 x46 x47 x48 x49 x50 x51 x52 x53 x54 : Int32) (z0 : Int64) (f0 : Nat → Int32) (ix16 : iv x16 0 1) (ix17 : iv x17 0 40) (ix22 : iv x22 0 65535) (ix23 : iv x23 0 1) (ix24 : iv x24 0 1) (ix25 : iv x25 0 2600) (ix26 : iv x26 0 2600) (ix27 : iv x27 0 2500) (ix28 : iv x28 0 2500) (ix32 : iv x32 0 1048575) (ix33 : iv x33 0 60) (ix34 : iv x34 0 60) (ix35 : iv x35 0 1) (ix36 : iv x36 0 1) (ix37 : iv x37 0 65535) (ix42 : iv x42 0 5200) (ix43 : iv x43 0 70800) (ix47 : iv x47 0 1) (ix48 : iv x48 0 1) (ix50 : iv x50 0 94) (ix54 : iv x54 0 1) (if0 : ∀ j, iv (f0 j) (-128) 127) : Met l yX12_saySharp (Cond.code yX12_saySharp cX12_saySharp 2 none :: lw_G) ({ frames := 2, cells := 0, slots := 0, locals := 43 }) (va_Pc [.ref h0, .int x0] (fun U => U.heap.size = sz ∧ va_P (dC, dI) vwCl [(h0, .inr (12, .int x1 :: .ref h1 :: .ref h2 :: .int x2 :: .int x3 :: .int x4 :: .int x5 :: .int x6 :: .int x7 :: .int x8 :: .int x9 :: .int x10 :: [.int x11, .int x12, .int x13, .int x14, .int x15, .int x16, .ref h3, .ref h4, .ref h5, .ref h6, .int x17, .int x18, .int x19, .int x20, .int x21, .int x22, .int x23, .int x24, .ref h7, .int x25, .int x26, .int x27, .int x28, .ref h8, .ref h9, .int x29, .int x30, .long z0, .int x31, .int x32, .ref h10, .ref h11, .ref h12, .ref h13, .ref h14, .int x33, .int x34, .int x35, .int x36, .int x37, .int x38, .int x39, .int x40, .int x41, .ref h15, .ref h16, .int x42, .int x43, .int x44, .int x45, .int x46, .int x47, .int x48, .int x49, .ref h17, .int x50, .int x51, .int x52, .int x53, .int x54])), (h17, .inl (y0, 100, .inl f0))] U.heap ∧ va_K (dC, dI) vwCl [(y0, .byte)] U ∧ va_D (fun _ => True) [(h0, .inr (12, .int x1 :: .ref h1 :: .ref h2 :: .int x2 :: .int x3 :: .int x4 :: .int x5 :: .int x6 :: .int x7 :: .int x8 :: .int x9 :: .int x10 :: [.int x11, .int x12, .int x13, .int x14, .int x15, .int x16, .ref h3, .ref h4, .ref h5, .ref h6, .int x17, .int x18, .int x19, .int x20, .int x21, .int x22, .int x23, .int x24, .ref h7, .int x25, .int x26, .int x27, .int x28, .ref h8, .ref h9, .int x29, .int x30, .long z0, .int x31, .int x32, .ref h10, .ref h11, .ref h12, .ref h13, .ref h14, .int x33, .int x34, .int x35, .int x36, .int x37, .int x38, .int x39, .int x40, .int x41, .ref h15, .ref h16, .int x42, .int x43, .int x44, .int x45, .int x46, .int x47, .int x48, .int x49, .ref h17, .int x50, .int x51, .int x52, .int x53, .int x54])), (h17, .inl (y0, 100, .inl f0))])) (va_Qv (fun (u : Int32 × (Nat → Int32)) => iv u.1 1 100 ∧ (∀ j, iv (u.2 j) (-128) 127) ∧ (u.1.toInt ≤ x50.toInt + 6) ∧ True) (fun (u : Int32 × (Nat → Int32)) (t : State) => va_P (dC, dI) vwCl [(h0, .inr (12, .int x1 :: .ref h1 :: .ref h2 :: .int x2 :: .int x3 :: .int x4 :: .int x5 :: .int x6 :: .int x7 :: .int x8 :: .int x9 :: .int x10 :: [.int x11, .int x12, .int x13, .int x14, .int x15, .int x16, .ref h3, .ref h4, .ref h5, .ref h6, .int x17, .int x18, .int x19, .int x20, .int x21, .int x22, .int x23, .int x24, .ref h7, .int x25, .int x26, .int x27, .int x28, .ref h8, .ref h9, .int x29, .int x30, .long z0, .int x31, .int x32, .ref h10, .ref h11, .ref h12, .ref h13, .ref h14, .int x33, .int x34, .int x35, .int x36, .int x37, .int x38, .int x39, .int x40, .int x41, .ref h15, .ref h16, .int x42, .int x43, .int x44, .int x45, .int x46, .int x47, .int x48, .int x49, .ref h17, .int u.1, .int x51, .int x52, .int x53, .int x54])), (h17, .inl (y0, 100, .inl u.2))] t.heap ∧ va_K (dC, dI) vwCl [(y0, .byte)] t ∧ va_D (va_A [(h0, .inr (12, .int x1 :: .ref h1 :: .ref h2 :: .int x2 :: .int x3 :: .int x4 :: .int x5 :: .int x6 :: .int x7 :: .int x8 :: .int x9 :: .int x10 :: [.int x11, .int x12, .int x13, .int x14, .int x15, .int x16, .ref h3, .ref h4, .ref h5, .ref h6, .int x17, .int x18, .int x19, .int x20, .int x21, .int x22, .int x23, .int x24, .ref h7, .int x25, .int x26, .int x27, .int x28, .ref h8, .ref h9, .int x29, .int x30, .long z0, .int x31, .int x32, .ref h10, .ref h11, .ref h12, .ref h13, .ref h14, .int x33, .int x34, .int x35, .int x36, .int x37, .int x38, .int x39, .int x40, .int x41, .ref h15, .ref h16, .int x42, .int x43, .int x44, .int x45, .int x46, .int x47, .int x48, .int x49, .ref h17, .int x50, .int x51, .int x52, .int x53, .int x54])), (h17, .inl (y0, 100, .inl f0))] sz) [(h0, .inr (12, .int x1 :: .ref h1 :: .ref h2 :: .int x2 :: .int x3 :: .int x4 :: .int x5 :: .int x6 :: .int x7 :: .int x8 :: .int x9 :: .int x10 :: [.int x11, .int x12, .int x13, .int x14, .int x15, .int x16, .ref h3, .ref h4, .ref h5, .ref h6, .int x17, .int x18, .int x19, .int x20, .int x21, .int x22, .int x23, .int x24, .ref h7, .int x25, .int x26, .int x27, .int x28, .ref h8, .ref h9, .int x29, .int x30, .long z0, .int x31, .int x32, .ref h10, .ref h11, .ref h12, .ref h13, .ref h14, .int x33, .int x34, .int x35, .int x36, .int x37, .int x38, .int x39, .int x40, .int x41, .ref h15, .ref h16, .int x42, .int x43, .int x44, .int x45, .int x46, .int x47, .int x48, .int x49, .ref h17, .int u.1, .int x51, .int x52, .int x53, .int x54])), (h17, .inl (y0, 100, .inl u.2))]) (va_A [(h0, .inr (12, .int x1 :: .ref h1 :: .ref h2 :: .int x2 :: .int x3 :: .int x4 :: .int x5 :: .int x6 :: .int x7 :: .int x8 :: .int x9 :: .int x10 :: [.int x11, .int x12, .int x13, .int x14, .int x15, .int x16, .ref h3, .ref h4, .ref h5, .ref h6, .int x17, .int x18, .int x19, .int x20, .int x21, .int x22, .int x23, .int x24, .ref h7, .int x25, .int x26, .int x27, .int x28, .ref h8, .ref h9, .int x29, .int x30, .long z0, .int x31, .int x32, .ref h10, .ref h11, .ref h12, .ref h13, .ref h14, .int x33, .int x34, .int x35, .int x36, .int x37, .int x38, .int x39, .int x40, .int x41, .ref h15, .ref h16, .int x42, .int x43, .int x44, .int x45, .int x46, .int x47, .int x48, .int x49, .ref h17, .int x50, .int x51, .int x52, .int x53, .int x54])), (h17, .inl (y0, 100, .inl f0))] sz)) 0 0 (va_A [(h0, .inr (12, .int x1 :: .ref h1 :: .ref h2 :: .int x2 :: .int x3 :: .int x4 :: .int x5 :: .int x6 :: .int x7 :: .int x8 :: .int x9 :: .int x10 :: [.int x11, .int x12, .int x13, .int x14, .int x15, .int x16, .ref h3, .ref h4, .ref h5, .ref h6, .int x17, .int x18, .int x19, .int x20, .int x21, .int x22, .int x23, .int x24, .ref h7, .int x25, .int x26, .int x27, .int x28, .ref h8, .ref h9, .int x29, .int x30, .long z0, .int x31, .int x32, .ref h10, .ref h11, .ref h12, .ref h13, .ref h14, .int x33, .int x34, .int x35, .int x36, .int x37, .int x38, .int x39, .int x40, .int x41, .ref h15, .ref h16, .int x42, .int x43, .int x44, .int x45, .int x46, .int x47, .int x48, .int x49, .ref h17, .int x50, .int x51, .int x52, .int x53, .int x54])), (h17, .inl (y0, 100, .inl f0))] sz) := by
  refine Met.ofW (cc := cX12_saySharp) (maxL := 2) (ret := none) (by decide) rfl ?_
  intro p e s m args below meth c s₁ B hml hv
  obtain ⟨rfl, hsz, hP, hK, hD0⟩ := hv
  have hx := B.exec
  have hb := B.bytes
  have hr := B.returns
  have hts0 := atoms_spec (ws := Cond.code yX12_saySharp cX12_saySharp 2 none :: lw_G) B.pre
  have hG : ∀ w ∈ lw_G, w.before _ s = true := fun w h => hts0 w (List.mem_cons_of_mem _ h)
  have hown : s.vm.findClass RX12 = some m.cls := findClass_of_methodNamed B.named
  have hlocks := B.notSynchronized
  subst hsz
  have hD := hD0.self (sz := s.heap.size)
  generalize hAe : va_A [(h0, .inr (12, .int x1 :: .ref h1 :: .ref h2 :: .int x2 :: .int x3 :: .int x4 :: .int x5 :: .int x6 :: .int x7 :: .int x8 :: .int x9 :: .int x10 :: [.int x11, .int x12, .int x13, .int x14, .int x15, .int x16, .ref h3, .ref h4, .ref h5, .ref h6, .int x17, .int x18, .int x19, .int x20, .int x21, .int x22, .int x23, .int x24, .ref h7, .int x25, .int x26, .int x27, .int x28, .ref h8, .ref h9, .int x29, .int x30, .long z0, .int x31, .int x32, .ref h10, .ref h11, .ref h12, .ref h13, .ref h14, .int x33, .int x34, .int x35, .int x36, .int x37, .int x38, .int x39, .int x40, .int x41, .ref h15, .ref h16, .int x42, .int x43, .int x44, .int x45, .int x46, .int x47, .int x48, .int x49, .ref h17, .int x50, .int x51, .int x52, .int x53, .int x54])), (h17, .inl (y0, 100, .inl f0))] s.heap.size = A at hD ⊢
  have hA : ∀ q : Nat, s.heap.size ≤ q → A q := fun q h => by rw [← hAe]; exact Or.inr h
  have hS : va_S A s.heap s.heap [] := va_S.rf
  have hP : va_P (dC, dI) vwCl [(h0, .inr (12, .int x1 :: .ref h1 :: .ref h2 :: .int x2 :: .int x3 :: .int x4 :: .int x5 :: .int x6 :: .int x7 :: .int x8 :: .int x9 :: .int x10 :: [.int x11, .int x12, .int x13, .int x14, .int x15, .int x16, .ref h3, .ref h4, .ref h5, .ref h6, .int x17, .int x18, .int x19, .int x20, .int x21, .int x22, .int x23, .int x24, .ref h7, .int x25, .int x26, .int x27, .int x28, .ref h8, .ref h9, .int x29, .int x30, .long z0, .int x31, .int x32, .ref h10, .ref h11, .ref h12, .ref h13, .ref h14, .int x33, .int x34, .int x35, .int x36, .int x37, .int x38, .int x39, .int x40, .int x41, .ref h15, .ref h16, .int x42, .int x43, .int x44, .int x45, .int x46, .int x47, .int x48, .int x49, .ref h17, .int x50, .int x51, .int x52, .int x53, .int x54])), (h17, .inl (y0, 100, .inl f0))] s.heap := hP
  have hl := lv_entry ([.ref h0, .int x0]) (n := 2) (Nat.le_of_ble_eq_true rfl)
  rw [lg_entry_eq]
  generalize (lg_sl ([.ref h0, .int x0]) ++ List.replicate (2 - (lg_sl ([.ref h0, .int x0])).length) Slot.unset).toArray = ls at hl ⊢
  have hl : lv_has ls 2 [(0, .ref h0), (1, .int x0)] := hl
  generalize ([.ref h0, .int x0] : List Value).toArray = ar at hG ⊢
  refine wq (fun Q hQ => ?_)
  refine lv_aload_n hx hb dX12_saySharp_0 rfl (lv_at hl 0 rfl) ?_
  refine lv_bipush (v := 35) hx hb dX12_saySharp_1 (by decide) ?_
  obtain ⟨hPc, hDc, hFc⟩ := nv_sub3 (wc := [(h0, .inr (12, .int x1 :: .ref h1 :: .ref h2 :: .int x2 :: .int x3 :: .int x4 :: .int x5 :: .int x6 :: .int x7 :: .int x8 :: .int x9 :: .int x10 :: [.int x11, .int x12, .int x13, .int x14, .int x15, .int x16, .ref h3, .ref h4, .ref h5, .ref h6, .int x17, .int x18, .int x19, .int x20, .int x21, .int x22, .int x23, .int x24, .ref h7, .int x25, .int x26, .int x27, .int x28, .ref h8, .ref h9, .int x29, .int x30, .long z0, .int x31, .int x32, .ref h10, .ref h11, .ref h12, .ref h13, .ref h14, .int x33, .int x34, .int x35, .int x36, .int x37, .int x38, .int x39, .int x40, .int x41, .ref h15, .ref h16, .int x42, .int x43, .int x44, .int x45, .int x46, .int x47, .int x48, .int x49, .ref h17, .int x50, .int x51, .int x52, .int x53, .int x54])), (h17, .inl (y0, 100, .inl f0))]) hP hD hS hA [0, 1] (by decide) rfl
  have hKc := hK.sub (tys' := [(y0, .byte)]) [0] rfl
  refine va_callv (va_runV (As := [.int 35]) (rest := []) ⟨hx, hb, hml, hown, hG⟩ (cX12_say_1 l dC dI h0 h1 h2 h3 h4 h5 h6 h7 h8 h9 h10 h11 h12 h13 h14 h15 h16 h17 y0 s.heap.size 35 x1 x2 x3 x4 x5 x6 x7 x8 x9 x10 x11 x12 x13 x14 x15 x16 x17 x18 x19 x20 x21 x22 x23 x24 x25 x26 x27 x28 x29 x30 x31 x32 x33 x34 x35 x36 x37 x38 x39 x40 x41 x42 x43 x44 x45 x46 x47 x48 x49 x50 x51 x52 x53 x54 z0 f0 ix16 ix17 ix22 ix23 ix24 ix25 ix26 ix27 ix28 ix32 ix33 ix34 ix35 ix36 ix37 ix42 ix43 ix47 ix48 (iv_w ix50 (by decide) (by decide)) ix54 if0) (cwV 1 hG (gV wd_1834 wd_1836 wp_122 wd_17 wd_1837) rfl rfl rfl (by decide +kernel) ⟨Nat.le_of_ble_eq_true rfl, Nat.le_of_ble_eq_true rfl⟩) ⟨fun a U g mk q => by obtain ⟨q0, q1, qP, qK, qD⟩ := q; exact ⟨q0, q1, qP, va_K.moved (u := U) (U := U.calling g mk a) (Vm.Alike.refl U.vm) qK, qD⟩, va_recv hKc hPc (ci := 12) (q0 := 0) rfl rfl, fun U hU hW => ⟨rfl, by rw [hU], by rw [hU]; exact hPc, va_K.moved hW.alike hKc, hDc.weaken (fun _ _ _ _ => trivial)⟩⟩ rfl rfl hl.1 rfl (lv_room (Nat.le_of_ble_eq_true rfl)) dX12_saySharp_3 ⟨by decide, by decide⟩) hS (fun q _ h => hFc q h) hFc (fun u2 t H1 locs ht hvm hw hB hz1 hk1 hS => ?_)
  obtain ⟨u2_0, u2_1⟩ := u2
  have hw : u2_0.toInt = x50.toInt + 1 ∧ iv u2_0 1 100 ∧ (∀ j, iv (u2_1 j) (-128) 127) ∧ True := hw
  obtain ⟨lu2_0, iu2_0, iu2_1, -⟩ := hw
  have mu2_0 : iv u2_0 1 95 := by have q9 := ix50; exact ⟨by omega, by omega⟩
  obtain ⟨hP1, hK1, hD1⟩ := hB
  rw [ht] at hP1
  have hK1 := va_K.moved hvm.symm hK1
  obtain ⟨hP, hD⟩ := nv_join (wf := [(h0, .inr (12, .int x1 :: .ref h1 :: .ref h2 :: .int x2 :: .int x3 :: .int x4 :: .int x5 :: .int x6 :: .int x7 :: .int x8 :: .int x9 :: .int x10 :: [.int x11, .int x12, .int x13, .int x14, .int x15, .int x16, .ref h3, .ref h4, .ref h5, .ref h6, .int x17, .int x18, .int x19, .int x20, .int x21, .int x22, .int x23, .int x24, .ref h7, .int x25, .int x26, .int x27, .int x28, .ref h8, .ref h9, .int x29, .int x30, .long z0, .int x31, .int x32, .ref h10, .ref h11, .ref h12, .ref h13, .ref h14, .int x33, .int x34, .int x35, .int x36, .int x37, .int x38, .int x39, .int x40, .int x41, .ref h15, .ref h16, .int x42, .int x43, .int x44, .int x45, .int x46, .int x47, .int x48, .int x49, .ref h17, .int u2_0, .int x51, .int x52, .int x53, .int x54])), (h17, .inl (y0, 100, .inl u2_1))]) hP hD [0, 1] [] rfl rfl (by decide) (by decide) hk1 hFc hP1 hD1 rfl
  have hK := (hK.sub (tys' := []) [] rfl).app hK1
  generalize H1 = H at hP hS ⊢
  have hK : va_K (dC, dI) vwCl [(y0, .byte)] s := hK
  clear hKc hPc hDc hFc hP1 hD1 hK1 hk1 hz1
  refine lv_iload_n hx hb dX12_saySharp_6 rfl (lv_at hl 1 rfl) ?_
  refine lv_ldc hx hb hown (hG _ wd_1553) dX12_saySharp_7 ?_
  refine jcut (a := ∀ (b12 : Int32) (b13 : Nat → Int32) (ib12 : iv b12 1 100) (ib13 : ∀ j, iv (b13 j) (-128) 127) (o14 : b12.toInt ≤ x50.toInt + 6) (H : Heap) (locs : List Loc) (hK : va_K (dC, dI) vwCl [(y0, .byte)] s) (hP : va_P (dC, dI) vwCl [(h0, .inr (12, .int x1 :: .ref h1 :: .ref h2 :: .int x2 :: .int x3 :: .int x4 :: .int x5 :: .int x6 :: .int x7 :: .int x8 :: .int x9 :: .int x10 :: [.int x11, .int x12, .int x13, .int x14, .int x15, .int x16, .ref h3, .ref h4, .ref h5, .ref h6, .int x17, .int x18, .int x19, .int x20, .int x21, .int x22, .int x23, .int x24, .ref h7, .int x25, .int x26, .int x27, .int x28, .ref h8, .ref h9, .int x29, .int x30, .long z0, .int x31, .int x32, .ref h10, .ref h11, .ref h12, .ref h13, .ref h14, .int x33, .int x34, .int x35, .int x36, .int x37, .int x38, .int x39, .int x40, .int x41, .ref h15, .ref h16, .int x42, .int x43, .int x44, .int x45, .int x46, .int x47, .int x48, .int x49, .ref h17, .int b12, .int x51, .int x52, .int x53, .int x54])), (h17, .inl (y0, 100, .inl b13))] H) (hD : va_D A [(h0, .inr (12, .int x1 :: .ref h1 :: .ref h2 :: .int x2 :: .int x3 :: .int x4 :: .int x5 :: .int x6 :: .int x7 :: .int x8 :: .int x9 :: .int x10 :: [.int x11, .int x12, .int x13, .int x14, .int x15, .int x16, .ref h3, .ref h4, .ref h5, .ref h6, .int x17, .int x18, .int x19, .int x20, .int x21, .int x22, .int x23, .int x24, .ref h7, .int x25, .int x26, .int x27, .int x28, .ref h8, .ref h9, .int x29, .int x30, .long z0, .int x31, .int x32, .ref h10, .ref h11, .ref h12, .ref h13, .ref h14, .int x33, .int x34, .int x35, .int x36, .int x37, .int x38, .int x39, .int x40, .int x41, .ref h15, .ref h16, .int x42, .int x43, .int x44, .int x45, .int x46, .int x47, .int x48, .int x49, .ref h17, .int b12, .int x51, .int x52, .int x53, .int x54])), (h17, .inl (y0, 100, .inl b13))]) (hS : va_S A s.heap H locs) (ls : Array Slot) (hl : lv_has ls 2 []), W p l e (headSpec (Cond.code yX12_saySharp cX12_saySharp 2 none :: lw_G) ({ frames := 2, cells := 0, slots := 0, locals := 43 })).room s m ar below meth c H locs 0 0 Q (F0 m 32 ls [])) ?_ (fun j15 => ?_)
  · skip
    intro b12 b13 ib12 ib13 o14 H locs hK hP hD hS ls hl
    rw [hQ]
    obtain ⟨hP9, hD9⟩ := nv_sub2 (wc := [(h0, .inr (12, .int x1 :: .ref h1 :: .ref h2 :: .int x2 :: .int x3 :: .int x4 :: .int x5 :: .int x6 :: .int x7 :: .int x8 :: .int x9 :: .int x10 :: [.int x11, .int x12, .int x13, .int x14, .int x15, .int x16, .ref h3, .ref h4, .ref h5, .ref h6, .int x17, .int x18, .int x19, .int x20, .int x21, .int x22, .int x23, .int x24, .ref h7, .int x25, .int x26, .int x27, .int x28, .ref h8, .ref h9, .int x29, .int x30, .long z0, .int x31, .int x32, .ref h10, .ref h11, .ref h12, .ref h13, .ref h14, .int x33, .int x34, .int x35, .int x36, .int x37, .int x38, .int x39, .int x40, .int x41, .ref h15, .ref h16, .int x42, .int x43, .int x44, .int x45, .int x46, .int x47, .int x48, .int x49, .ref h17, .int b12, .int x51, .int x52, .int x53, .int x54])), (h17, .inl (y0, 100, .inl b13))]) hP hD [0, 1] (by decide) rfl
    have hK9 := hK.sub (tys' := [(y0, .byte)]) [0] rfl
    have oh16 : b12.toInt ≤ x50.toInt + 6 := by omega
    exact W.vret hx hb hr (fun t ht hW => ⟨⟨(b12, b13), rfl, ⟨iv_w ib12 (by decide) (by decide), (fun j => iv_w (ib13 j) (by decide) (by decide)), oh16, trivial⟩, by rw [ht]; exact hP9, va_K.moved hW.alike hK9, hD9⟩, hS.F ht⟩) hS.2.2 dX12_saySharp_32
  refine lv_icmp_ne (tgt := 27) hx hb dX12_saySharp_9 (by decide) (fun c3 => ?_) (fun c3 => ?_)
  · skip
    refine lv_aload_n hx hb dX12_saySharp_27 rfl (lv_at hl 0 rfl) ?_
    refine lv_iload_n hx hb dX12_saySharp_28 rfl (lv_at hl 1 rfl) ?_
    obtain ⟨hPc, hDc, hFc⟩ := nv_sub3 (wc := [(h0, .inr (12, .int x1 :: .ref h1 :: .ref h2 :: .int x2 :: .int x3 :: .int x4 :: .int x5 :: .int x6 :: .int x7 :: .int x8 :: .int x9 :: .int x10 :: [.int x11, .int x12, .int x13, .int x14, .int x15, .int x16, .ref h3, .ref h4, .ref h5, .ref h6, .int x17, .int x18, .int x19, .int x20, .int x21, .int x22, .int x23, .int x24, .ref h7, .int x25, .int x26, .int x27, .int x28, .ref h8, .ref h9, .int x29, .int x30, .long z0, .int x31, .int x32, .ref h10, .ref h11, .ref h12, .ref h13, .ref h14, .int x33, .int x34, .int x35, .int x36, .int x37, .int x38, .int x39, .int x40, .int x41, .ref h15, .ref h16, .int x42, .int x43, .int x44, .int x45, .int x46, .int x47, .int x48, .int x49, .ref h17, .int u2_0, .int x51, .int x52, .int x53, .int x54])), (h17, .inl (y0, 100, .inl u2_1))]) hP hD hS hA [0, 1] (by decide) rfl
    have hKc := hK.sub (tys' := [(y0, .byte)]) [0] rfl
    refine va_callv (va_runV (As := [.int x0]) (rest := []) ⟨hx, hb, hml, hown, hG⟩ (cX12_sayNumber_1 l dC dI h0 h1 h2 h3 h4 h5 h6 h7 h8 h9 h10 h11 h12 h13 h14 h15 h16 h17 y0 H.size x0 x1 x2 x3 x4 x5 x6 x7 x8 x9 x10 x11 x12 x13 x14 x15 x16 x17 x18 x19 x20 x21 x22 x23 x24 x25 x26 x27 x28 x29 x30 x31 x32 x33 x34 x35 x36 x37 x38 x39 x40 x41 x42 x43 x44 x45 x46 x47 x48 x49 u2_0 x51 x52 x53 x54 z0 u2_1 ix16 ix17 ix22 ix23 ix24 ix25 ix26 ix27 ix28 ix32 ix33 ix34 ix35 ix36 ix37 ix42 ix43 ix47 ix48 (iv_w mu2_0 (by decide) (by decide)) ix54 iu2_1) (cwV 1 hG (gV wd_1838 wd_1840 wp_123 wd_17 wd_1841) rfl rfl rfl (by decide +kernel) ⟨Nat.le_of_ble_eq_true rfl, Nat.le_of_ble_eq_true rfl⟩) ⟨fun a U g mk q => by obtain ⟨q0, q1, qP, qK, qD⟩ := q; exact ⟨q0, q1, qP, va_K.moved (u := U) (U := U.calling g mk a) (Vm.Alike.refl U.vm) qK, qD⟩, va_recv hKc hPc (ci := 12) (q0 := 0) rfl rfl, fun U hU hW => ⟨rfl, by rw [hU], by rw [hU]; exact hPc, va_K.moved hW.alike hKc, hDc.weaken (fun _ _ _ _ => trivial)⟩⟩ rfl rfl hl.1 rfl (lv_room (Nat.le_of_ble_eq_true rfl)) dX12_saySharp_29 ⟨by decide, by decide⟩) hS (fun q _ h => hFc q h) hFc (fun u18 t H1 locs ht hvm hw hB hz1 hk1 hS => ?_)
    obtain ⟨u18_0, u18_1⟩ := u18
    have hw : iv u18_0 1 100 ∧ (∀ j, iv (u18_1 j) (-128) 127) ∧ (u18_0.toInt ≤ u2_0.toInt + 5) ∧ True := hw
    obtain ⟨iu18_0, iu18_1, op19, -⟩ := hw
    obtain ⟨hP1, hK1, hD1⟩ := hB
    rw [ht] at hP1
    have hK1 := va_K.moved hvm.symm hK1
    obtain ⟨hP, hD⟩ := nv_join (wf := [(h0, .inr (12, .int x1 :: .ref h1 :: .ref h2 :: .int x2 :: .int x3 :: .int x4 :: .int x5 :: .int x6 :: .int x7 :: .int x8 :: .int x9 :: .int x10 :: [.int x11, .int x12, .int x13, .int x14, .int x15, .int x16, .ref h3, .ref h4, .ref h5, .ref h6, .int x17, .int x18, .int x19, .int x20, .int x21, .int x22, .int x23, .int x24, .ref h7, .int x25, .int x26, .int x27, .int x28, .ref h8, .ref h9, .int x29, .int x30, .long z0, .int x31, .int x32, .ref h10, .ref h11, .ref h12, .ref h13, .ref h14, .int x33, .int x34, .int x35, .int x36, .int x37, .int x38, .int x39, .int x40, .int x41, .ref h15, .ref h16, .int x42, .int x43, .int x44, .int x45, .int x46, .int x47, .int x48, .int x49, .ref h17, .int u18_0, .int x51, .int x52, .int x53, .int x54])), (h17, .inl (y0, 100, .inl u18_1))]) hP hD [0, 1] [] rfl rfl (by decide) (by decide) hk1 hFc hP1 hD1 rfl
    have hK := (hK.sub (tys' := []) [] rfl).app hK1
    generalize H1 = H at hP hS ⊢
    have hK : va_K (dC, dI) vwCl [(y0, .byte)] s := hK
    clear hKc hPc hDc hFc hP1 hD1 hK1 hk1 hz1
    have oh20 : u18_0.toInt ≤ x50.toInt + 6 := by omega
    exact j15 u18_0 u18_1 iu18_0 iu18_1 oh20 _ _ hK hP hD hS ls (lv_sub hl [] rfl)
  · skip
    have j21 : iv x0 65535 65535 := iv_eqc c3 (by decide)
    refine lv_aload_n hx hb dX12_saySharp_12 rfl (lv_at hl 0 rfl) ?_
    refine lv_bipush (v := 45) hx hb dX12_saySharp_13 (by decide) ?_
    obtain ⟨hPc, hDc, hFc⟩ := nv_sub3 (wc := [(h0, .inr (12, .int x1 :: .ref h1 :: .ref h2 :: .int x2 :: .int x3 :: .int x4 :: .int x5 :: .int x6 :: .int x7 :: .int x8 :: .int x9 :: .int x10 :: [.int x11, .int x12, .int x13, .int x14, .int x15, .int x16, .ref h3, .ref h4, .ref h5, .ref h6, .int x17, .int x18, .int x19, .int x20, .int x21, .int x22, .int x23, .int x24, .ref h7, .int x25, .int x26, .int x27, .int x28, .ref h8, .ref h9, .int x29, .int x30, .long z0, .int x31, .int x32, .ref h10, .ref h11, .ref h12, .ref h13, .ref h14, .int x33, .int x34, .int x35, .int x36, .int x37, .int x38, .int x39, .int x40, .int x41, .ref h15, .ref h16, .int x42, .int x43, .int x44, .int x45, .int x46, .int x47, .int x48, .int x49, .ref h17, .int u2_0, .int x51, .int x52, .int x53, .int x54])), (h17, .inl (y0, 100, .inl u2_1))]) hP hD hS hA [0, 1] (by decide) rfl
    have hKc := hK.sub (tys' := [(y0, .byte)]) [0] rfl
    refine va_callv (va_runV (As := [.int 45]) (rest := []) ⟨hx, hb, hml, hown, hG⟩ (cX12_say_1 l dC dI h0 h1 h2 h3 h4 h5 h6 h7 h8 h9 h10 h11 h12 h13 h14 h15 h16 h17 y0 H.size 45 x1 x2 x3 x4 x5 x6 x7 x8 x9 x10 x11 x12 x13 x14 x15 x16 x17 x18 x19 x20 x21 x22 x23 x24 x25 x26 x27 x28 x29 x30 x31 x32 x33 x34 x35 x36 x37 x38 x39 x40 x41 x42 x43 x44 x45 x46 x47 x48 x49 u2_0 x51 x52 x53 x54 z0 u2_1 ix16 ix17 ix22 ix23 ix24 ix25 ix26 ix27 ix28 ix32 ix33 ix34 ix35 ix36 ix37 ix42 ix43 ix47 ix48 (iv_w mu2_0 (by decide) (by decide)) ix54 iu2_1) (cwV 1 hG (gV wd_1834 wd_1836 wp_122 wd_17 wd_1837) rfl rfl rfl (by decide +kernel) ⟨Nat.le_of_ble_eq_true rfl, Nat.le_of_ble_eq_true rfl⟩) ⟨fun a U g mk q => by obtain ⟨q0, q1, qP, qK, qD⟩ := q; exact ⟨q0, q1, qP, va_K.moved (u := U) (U := U.calling g mk a) (Vm.Alike.refl U.vm) qK, qD⟩, va_recv hKc hPc (ci := 12) (q0 := 0) rfl rfl, fun U hU hW => ⟨rfl, by rw [hU], by rw [hU]; exact hPc, va_K.moved hW.alike hKc, hDc.weaken (fun _ _ _ _ => trivial)⟩⟩ rfl rfl hl.1 rfl (lv_room (Nat.le_of_ble_eq_true rfl)) dX12_saySharp_15 ⟨by decide, by decide⟩) hS (fun q _ h => hFc q h) hFc (fun u23 t H1 locs ht hvm hw hB hz1 hk1 hS => ?_)
    obtain ⟨u23_0, u23_1⟩ := u23
    have hw : u23_0.toInt = u2_0.toInt + 1 ∧ iv u23_0 1 100 ∧ (∀ j, iv (u23_1 j) (-128) 127) ∧ True := hw
    obtain ⟨lu23_0, iu23_0, iu23_1, -⟩ := hw
    have mu23_0 : iv u23_0 2 96 := by have q9 := mu2_0; exact ⟨by omega, by omega⟩
    obtain ⟨hP1, hK1, hD1⟩ := hB
    rw [ht] at hP1
    have hK1 := va_K.moved hvm.symm hK1
    obtain ⟨hP, hD⟩ := nv_join (wf := [(h0, .inr (12, .int x1 :: .ref h1 :: .ref h2 :: .int x2 :: .int x3 :: .int x4 :: .int x5 :: .int x6 :: .int x7 :: .int x8 :: .int x9 :: .int x10 :: [.int x11, .int x12, .int x13, .int x14, .int x15, .int x16, .ref h3, .ref h4, .ref h5, .ref h6, .int x17, .int x18, .int x19, .int x20, .int x21, .int x22, .int x23, .int x24, .ref h7, .int x25, .int x26, .int x27, .int x28, .ref h8, .ref h9, .int x29, .int x30, .long z0, .int x31, .int x32, .ref h10, .ref h11, .ref h12, .ref h13, .ref h14, .int x33, .int x34, .int x35, .int x36, .int x37, .int x38, .int x39, .int x40, .int x41, .ref h15, .ref h16, .int x42, .int x43, .int x44, .int x45, .int x46, .int x47, .int x48, .int x49, .ref h17, .int u23_0, .int x51, .int x52, .int x53, .int x54])), (h17, .inl (y0, 100, .inl u23_1))]) hP hD [0, 1] [] rfl rfl (by decide) (by decide) hk1 hFc hP1 hD1 rfl
    have hK := (hK.sub (tys' := []) [] rfl).app hK1
    generalize H1 = H at hP hS ⊢
    have hK : va_K (dC, dI) vwCl [(y0, .byte)] s := hK
    clear hKc hPc hDc hFc hP1 hD1 hK1 hk1 hz1
    refine lv_aload_n hx hb dX12_saySharp_18 rfl (lv_at hl 0 rfl) ?_
    refine lv_bipush (v := 49) hx hb dX12_saySharp_19 (by decide) ?_
    obtain ⟨hPc, hDc, hFc⟩ := nv_sub3 (wc := [(h0, .inr (12, .int x1 :: .ref h1 :: .ref h2 :: .int x2 :: .int x3 :: .int x4 :: .int x5 :: .int x6 :: .int x7 :: .int x8 :: .int x9 :: .int x10 :: [.int x11, .int x12, .int x13, .int x14, .int x15, .int x16, .ref h3, .ref h4, .ref h5, .ref h6, .int x17, .int x18, .int x19, .int x20, .int x21, .int x22, .int x23, .int x24, .ref h7, .int x25, .int x26, .int x27, .int x28, .ref h8, .ref h9, .int x29, .int x30, .long z0, .int x31, .int x32, .ref h10, .ref h11, .ref h12, .ref h13, .ref h14, .int x33, .int x34, .int x35, .int x36, .int x37, .int x38, .int x39, .int x40, .int x41, .ref h15, .ref h16, .int x42, .int x43, .int x44, .int x45, .int x46, .int x47, .int x48, .int x49, .ref h17, .int u23_0, .int x51, .int x52, .int x53, .int x54])), (h17, .inl (y0, 100, .inl u23_1))]) hP hD hS hA [0, 1] (by decide) rfl
    have hKc := hK.sub (tys' := [(y0, .byte)]) [0] rfl
    refine va_callv (va_runV (As := [.int 49]) (rest := []) ⟨hx, hb, hml, hown, hG⟩ (cX12_say_1 l dC dI h0 h1 h2 h3 h4 h5 h6 h7 h8 h9 h10 h11 h12 h13 h14 h15 h16 h17 y0 H.size 49 x1 x2 x3 x4 x5 x6 x7 x8 x9 x10 x11 x12 x13 x14 x15 x16 x17 x18 x19 x20 x21 x22 x23 x24 x25 x26 x27 x28 x29 x30 x31 x32 x33 x34 x35 x36 x37 x38 x39 x40 x41 x42 x43 x44 x45 x46 x47 x48 x49 u23_0 x51 x52 x53 x54 z0 u23_1 ix16 ix17 ix22 ix23 ix24 ix25 ix26 ix27 ix28 ix32 ix33 ix34 ix35 ix36 ix37 ix42 ix43 ix47 ix48 (iv_w mu23_0 (by decide) (by decide)) ix54 iu23_1) (cwV 1 hG (gV wd_1834 wd_1836 wp_122 wd_17 wd_1837) rfl rfl rfl (by decide +kernel) ⟨Nat.le_of_ble_eq_true rfl, Nat.le_of_ble_eq_true rfl⟩) ⟨fun a U g mk q => by obtain ⟨q0, q1, qP, qK, qD⟩ := q; exact ⟨q0, q1, qP, va_K.moved (u := U) (U := U.calling g mk a) (Vm.Alike.refl U.vm) qK, qD⟩, va_recv hKc hPc (ci := 12) (q0 := 0) rfl rfl, fun U hU hW => ⟨rfl, by rw [hU], by rw [hU]; exact hPc, va_K.moved hW.alike hKc, hDc.weaken (fun _ _ _ _ => trivial)⟩⟩ rfl rfl hl.1 rfl (lv_room (Nat.le_of_ble_eq_true rfl)) dX12_saySharp_21 ⟨by decide, by decide⟩) hS (fun q _ h => hFc q h) hFc (fun u25 t H1 locs ht hvm hw hB hz1 hk1 hS => ?_)
    obtain ⟨u25_0, u25_1⟩ := u25
    have hw : u25_0.toInt = u23_0.toInt + 1 ∧ iv u25_0 1 100 ∧ (∀ j, iv (u25_1 j) (-128) 127) ∧ True := hw
    obtain ⟨lu25_0, iu25_0, iu25_1, -⟩ := hw
    have mu25_0 : iv u25_0 3 97 := by have q9 := mu23_0; exact ⟨by omega, by omega⟩
    obtain ⟨hP1, hK1, hD1⟩ := hB
    rw [ht] at hP1
    have hK1 := va_K.moved hvm.symm hK1
    obtain ⟨hP, hD⟩ := nv_join (wf := [(h0, .inr (12, .int x1 :: .ref h1 :: .ref h2 :: .int x2 :: .int x3 :: .int x4 :: .int x5 :: .int x6 :: .int x7 :: .int x8 :: .int x9 :: .int x10 :: [.int x11, .int x12, .int x13, .int x14, .int x15, .int x16, .ref h3, .ref h4, .ref h5, .ref h6, .int x17, .int x18, .int x19, .int x20, .int x21, .int x22, .int x23, .int x24, .ref h7, .int x25, .int x26, .int x27, .int x28, .ref h8, .ref h9, .int x29, .int x30, .long z0, .int x31, .int x32, .ref h10, .ref h11, .ref h12, .ref h13, .ref h14, .int x33, .int x34, .int x35, .int x36, .int x37, .int x38, .int x39, .int x40, .int x41, .ref h15, .ref h16, .int x42, .int x43, .int x44, .int x45, .int x46, .int x47, .int x48, .int x49, .ref h17, .int u25_0, .int x51, .int x52, .int x53, .int x54])), (h17, .inl (y0, 100, .inl u25_1))]) hP hD [0, 1] [] rfl rfl (by decide) (by decide) hk1 hFc hP1 hD1 rfl
    have hK := (hK.sub (tys' := []) [] rfl).app hK1
    generalize H1 = H at hP hS ⊢
    have hK : va_K (dC, dI) vwCl [(y0, .byte)] s := hK
    clear hKc hPc hDc hFc hP1 hD1 hK1 hk1 hz1
    refine lv_goto (tgt := 32) hx hb dX12_saySharp_24 (by decide) ?_
    have oh26 : u25_0.toInt ≤ x50.toInt + 6 := by omega
    exact j15 u25_0 u25_1 (iv_w mu25_0 (by decide) (by decide)) iu25_1 oh26 _ _ hK hP hD hS ls (lv_sub hl [] rfl)
set_option maxHeartbeats 100000000 in
set_option maxRecDepth 100000 in
theorem cX12_sayRegister_1 (l : Launch) (dC : Nat → ClassId) (dI : Nat → Nat → Nat) (h0 h1 h2 h3 h4 h5 h6 h7 h8 h9 h10 h11 h12 h13 h14 h15 h16 h17 : Nat) (y0 : ClassId) (sz : Nat) (x0 x1 x2 x3 x4 x5 x6 x7 x8 x9 x10 x11 x12 x13 x14 x15 x16 x17 x18 x19 x20 x21 x22 x23 x24 x25 x26 x27 x28 x29 x30 x31 x32 x33 x34 x35 x36 x37 x38 x39 x40 x41 x42 x43 x44 x45 x46 x47 x48 x49 x50 x51 x52 x53 x54 : Int32) (z0 : Int64) (f0 : Nat → Int32) (ix16 : iv x16 0 1) (ix17 : iv x17 0 40) (ix22 : iv x22 0 65535) (ix23 : iv x23 0 1) (ix24 : iv x24 0 1) (ix25 : iv x25 0 2600) (ix26 : iv x26 0 2600) (ix27 : iv x27 0 2500) (ix28 : iv x28 0 2500) (ix32 : iv x32 0 1048575) (ix33 : iv x33 0 60) (ix34 : iv x34 0 60) (ix35 : iv x35 0 1) (ix36 : iv x36 0 1) (ix37 : iv x37 0 65535) (ix42 : iv x42 0 5200) (ix43 : iv x43 0 70800) (ix47 : iv x47 0 1) (ix48 : iv x48 0 1) (ix50 : iv x50 0 94) (ix54 : iv x54 0 1) (if0 : ∀ j, iv (f0 j) (-128) 127) : Met l yX12_sayRegister (Cond.code yX12_sayRegister cX12_sayRegister 2 none :: lw_G) ({ frames := 2, cells := 0, slots := 0, locals := 43 }) (va_Pc [.ref h0, .int x0] (fun U => U.heap.size = sz ∧ va_P (dC, dI) vwCl [(h0, .inr (12, .int x1 :: .ref h1 :: .ref h2 :: .int x2 :: .int x3 :: .int x4 :: .int x5 :: .int x6 :: .int x7 :: .int x8 :: .int x9 :: .int x10 :: [.int x11, .int x12, .int x13, .int x14, .int x15, .int x16, .ref h3, .ref h4, .ref h5, .ref h6, .int x17, .int x18, .int x19, .int x20, .int x21, .int x22, .int x23, .int x24, .ref h7, .int x25, .int x26, .int x27, .int x28, .ref h8, .ref h9, .int x29, .int x30, .long z0, .int x31, .int x32, .ref h10, .ref h11, .ref h12, .ref h13, .ref h14, .int x33, .int x34, .int x35, .int x36, .int x37, .int x38, .int x39, .int x40, .int x41, .ref h15, .ref h16, .int x42, .int x43, .int x44, .int x45, .int x46, .int x47, .int x48, .int x49, .ref h17, .int x50, .int x51, .int x52, .int x53, .int x54])), (h17, .inl (y0, 100, .inl f0))] U.heap ∧ va_K (dC, dI) vwCl [(y0, .byte)] U ∧ va_D (fun _ => True) [(h0, .inr (12, .int x1 :: .ref h1 :: .ref h2 :: .int x2 :: .int x3 :: .int x4 :: .int x5 :: .int x6 :: .int x7 :: .int x8 :: .int x9 :: .int x10 :: [.int x11, .int x12, .int x13, .int x14, .int x15, .int x16, .ref h3, .ref h4, .ref h5, .ref h6, .int x17, .int x18, .int x19, .int x20, .int x21, .int x22, .int x23, .int x24, .ref h7, .int x25, .int x26, .int x27, .int x28, .ref h8, .ref h9, .int x29, .int x30, .long z0, .int x31, .int x32, .ref h10, .ref h11, .ref h12, .ref h13, .ref h14, .int x33, .int x34, .int x35, .int x36, .int x37, .int x38, .int x39, .int x40, .int x41, .ref h15, .ref h16, .int x42, .int x43, .int x44, .int x45, .int x46, .int x47, .int x48, .int x49, .ref h17, .int x50, .int x51, .int x52, .int x53, .int x54])), (h17, .inl (y0, 100, .inl f0))])) (va_Qv (fun (u : Int32 × (Nat → Int32)) => iv u.1 1 100 ∧ (∀ j, iv (u.2 j) (-128) 127) ∧ (u.1.toInt ≤ x50.toInt + 6) ∧ True) (fun (u : Int32 × (Nat → Int32)) (t : State) => va_P (dC, dI) vwCl [(h0, .inr (12, .int x1 :: .ref h1 :: .ref h2 :: .int x2 :: .int x3 :: .int x4 :: .int x5 :: .int x6 :: .int x7 :: .int x8 :: .int x9 :: .int x10 :: [.int x11, .int x12, .int x13, .int x14, .int x15, .int x16, .ref h3, .ref h4, .ref h5, .ref h6, .int x17, .int x18, .int x19, .int x20, .int x21, .int x22, .int x23, .int x24, .ref h7, .int x25, .int x26, .int x27, .int x28, .ref h8, .ref h9, .int x29, .int x30, .long z0, .int x31, .int x32, .ref h10, .ref h11, .ref h12, .ref h13, .ref h14, .int x33, .int x34, .int x35, .int x36, .int x37, .int x38, .int x39, .int x40, .int x41, .ref h15, .ref h16, .int x42, .int x43, .int x44, .int x45, .int x46, .int x47, .int x48, .int x49, .ref h17, .int u.1, .int x51, .int x52, .int x53, .int x54])), (h17, .inl (y0, 100, .inl u.2))] t.heap ∧ va_K (dC, dI) vwCl [(y0, .byte)] t ∧ va_D (va_A [(h0, .inr (12, .int x1 :: .ref h1 :: .ref h2 :: .int x2 :: .int x3 :: .int x4 :: .int x5 :: .int x6 :: .int x7 :: .int x8 :: .int x9 :: .int x10 :: [.int x11, .int x12, .int x13, .int x14, .int x15, .int x16, .ref h3, .ref h4, .ref h5, .ref h6, .int x17, .int x18, .int x19, .int x20, .int x21, .int x22, .int x23, .int x24, .ref h7, .int x25, .int x26, .int x27, .int x28, .ref h8, .ref h9, .int x29, .int x30, .long z0, .int x31, .int x32, .ref h10, .ref h11, .ref h12, .ref h13, .ref h14, .int x33, .int x34, .int x35, .int x36, .int x37, .int x38, .int x39, .int x40, .int x41, .ref h15, .ref h16, .int x42, .int x43, .int x44, .int x45, .int x46, .int x47, .int x48, .int x49, .ref h17, .int x50, .int x51, .int x52, .int x53, .int x54])), (h17, .inl (y0, 100, .inl f0))] sz) [(h0, .inr (12, .int x1 :: .ref h1 :: .ref h2 :: .int x2 :: .int x3 :: .int x4 :: .int x5 :: .int x6 :: .int x7 :: .int x8 :: .int x9 :: .int x10 :: [.int x11, .int x12, .int x13, .int x14, .int x15, .int x16, .ref h3, .ref h4, .ref h5, .ref h6, .int x17, .int x18, .int x19, .int x20, .int x21, .int x22, .int x23, .int x24, .ref h7, .int x25, .int x26, .int x27, .int x28, .ref h8, .ref h9, .int x29, .int x30, .long z0, .int x31, .int x32, .ref h10, .ref h11, .ref h12, .ref h13, .ref h14, .int x33, .int x34, .int x35, .int x36, .int x37, .int x38, .int x39, .int x40, .int x41, .ref h15, .ref h16, .int x42, .int x43, .int x44, .int x45, .int x46, .int x47, .int x48, .int x49, .ref h17, .int u.1, .int x51, .int x52, .int x53, .int x54])), (h17, .inl (y0, 100, .inl u.2))]) (va_A [(h0, .inr (12, .int x1 :: .ref h1 :: .ref h2 :: .int x2 :: .int x3 :: .int x4 :: .int x5 :: .int x6 :: .int x7 :: .int x8 :: .int x9 :: .int x10 :: [.int x11, .int x12, .int x13, .int x14, .int x15, .int x16, .ref h3, .ref h4, .ref h5, .ref h6, .int x17, .int x18, .int x19, .int x20, .int x21, .int x22, .int x23, .int x24, .ref h7, .int x25, .int x26, .int x27, .int x28, .ref h8, .ref h9, .int x29, .int x30, .long z0, .int x31, .int x32, .ref h10, .ref h11, .ref h12, .ref h13, .ref h14, .int x33, .int x34, .int x35, .int x36, .int x37, .int x38, .int x39, .int x40, .int x41, .ref h15, .ref h16, .int x42, .int x43, .int x44, .int x45, .int x46, .int x47, .int x48, .int x49, .ref h17, .int x50, .int x51, .int x52, .int x53, .int x54])), (h17, .inl (y0, 100, .inl f0))] sz)) 0 0 (va_A [(h0, .inr (12, .int x1 :: .ref h1 :: .ref h2 :: .int x2 :: .int x3 :: .int x4 :: .int x5 :: .int x6 :: .int x7 :: .int x8 :: .int x9 :: .int x10 :: [.int x11, .int x12, .int x13, .int x14, .int x15, .int x16, .ref h3, .ref h4, .ref h5, .ref h6, .int x17, .int x18, .int x19, .int x20, .int x21, .int x22, .int x23, .int x24, .ref h7, .int x25, .int x26, .int x27, .int x28, .ref h8, .ref h9, .int x29, .int x30, .long z0, .int x31, .int x32, .ref h10, .ref h11, .ref h12, .ref h13, .ref h14, .int x33, .int x34, .int x35, .int x36, .int x37, .int x38, .int x39, .int x40, .int x41, .ref h15, .ref h16, .int x42, .int x43, .int x44, .int x45, .int x46, .int x47, .int x48, .int x49, .ref h17, .int x50, .int x51, .int x52, .int x53, .int x54])), (h17, .inl (y0, 100, .inl f0))] sz) := by
  refine Met.ofW (cc := cX12_sayRegister) (maxL := 2) (ret := none) (by decide) rfl ?_
  intro p e s m args below meth c s₁ B hml hv
  obtain ⟨rfl, hsz, hP, hK, hD0⟩ := hv
  have hx := B.exec
  have hb := B.bytes
  have hr := B.returns
  have hts0 := atoms_spec (ws := Cond.code yX12_sayRegister cX12_sayRegister 2 none :: lw_G) B.pre
  have hG : ∀ w ∈ lw_G, w.before _ s = true := fun w h => hts0 w (List.mem_cons_of_mem _ h)
  have hown : s.vm.findClass RX12 = some m.cls := findClass_of_methodNamed B.named
  have hlocks := B.notSynchronized
  subst hsz
  have hD := hD0.self (sz := s.heap.size)
  generalize hAe : va_A [(h0, .inr (12, .int x1 :: .ref h1 :: .ref h2 :: .int x2 :: .int x3 :: .int x4 :: .int x5 :: .int x6 :: .int x7 :: .int x8 :: .int x9 :: .int x10 :: [.int x11, .int x12, .int x13, .int x14, .int x15, .int x16, .ref h3, .ref h4, .ref h5, .ref h6, .int x17, .int x18, .int x19, .int x20, .int x21, .int x22, .int x23, .int x24, .ref h7, .int x25, .int x26, .int x27, .int x28, .ref h8, .ref h9, .int x29, .int x30, .long z0, .int x31, .int x32, .ref h10, .ref h11, .ref h12, .ref h13, .ref h14, .int x33, .int x34, .int x35, .int x36, .int x37, .int x38, .int x39, .int x40, .int x41, .ref h15, .ref h16, .int x42, .int x43, .int x44, .int x45, .int x46, .int x47, .int x48, .int x49, .ref h17, .int x50, .int x51, .int x52, .int x53, .int x54])), (h17, .inl (y0, 100, .inl f0))] s.heap.size = A at hD ⊢
  have hA : ∀ q : Nat, s.heap.size ≤ q → A q := fun q h => by rw [← hAe]; exact Or.inr h
  have hS : va_S A s.heap s.heap [] := va_S.rf
  have hP : va_P (dC, dI) vwCl [(h0, .inr (12, .int x1 :: .ref h1 :: .ref h2 :: .int x2 :: .int x3 :: .int x4 :: .int x5 :: .int x6 :: .int x7 :: .int x8 :: .int x9 :: .int x10 :: [.int x11, .int x12, .int x13, .int x14, .int x15, .int x16, .ref h3, .ref h4, .ref h5, .ref h6, .int x17, .int x18, .int x19, .int x20, .int x21, .int x22, .int x23, .int x24, .ref h7, .int x25, .int x26, .int x27, .int x28, .ref h8, .ref h9, .int x29, .int x30, .long z0, .int x31, .int x32, .ref h10, .ref h11, .ref h12, .ref h13, .ref h14, .int x33, .int x34, .int x35, .int x36, .int x37, .int x38, .int x39, .int x40, .int x41, .ref h15, .ref h16, .int x42, .int x43, .int x44, .int x45, .int x46, .int x47, .int x48, .int x49, .ref h17, .int x50, .int x51, .int x52, .int x53, .int x54])), (h17, .inl (y0, 100, .inl f0))] s.heap := hP
  have hl := lv_entry ([.ref h0, .int x0]) (n := 2) (Nat.le_of_ble_eq_true rfl)
  rw [lg_entry_eq]
  generalize (lg_sl ([.ref h0, .int x0]) ++ List.replicate (2 - (lg_sl ([.ref h0, .int x0])).length) Slot.unset).toArray = ls at hl ⊢
  have hl : lv_has ls 2 [(0, .ref h0), (1, .int x0)] := hl
  generalize ([.ref h0, .int x0] : List Value).toArray = ar at hG ⊢
  refine wq (fun Q hQ => ?_)
  refine lv_aload_n hx hb dX12_sayRegister_0 rfl (lv_at hl 0 rfl) ?_
  refine lv_bipush (v := 114) hx hb dX12_sayRegister_1 (by decide) ?_
  obtain ⟨hPc, hDc, hFc⟩ := nv_sub3 (wc := [(h0, .inr (12, .int x1 :: .ref h1 :: .ref h2 :: .int x2 :: .int x3 :: .int x4 :: .int x5 :: .int x6 :: .int x7 :: .int x8 :: .int x9 :: .int x10 :: [.int x11, .int x12, .int x13, .int x14, .int x15, .int x16, .ref h3, .ref h4, .ref h5, .ref h6, .int x17, .int x18, .int x19, .int x20, .int x21, .int x22, .int x23, .int x24, .ref h7, .int x25, .int x26, .int x27, .int x28, .ref h8, .ref h9, .int x29, .int x30, .long z0, .int x31, .int x32, .ref h10, .ref h11, .ref h12, .ref h13, .ref h14, .int x33, .int x34, .int x35, .int x36, .int x37, .int x38, .int x39, .int x40, .int x41, .ref h15, .ref h16, .int x42, .int x43, .int x44, .int x45, .int x46, .int x47, .int x48, .int x49, .ref h17, .int x50, .int x51, .int x52, .int x53, .int x54])), (h17, .inl (y0, 100, .inl f0))]) hP hD hS hA [0, 1] (by decide) rfl
  have hKc := hK.sub (tys' := [(y0, .byte)]) [0] rfl
  refine va_callv (va_runV (As := [.int 114]) (rest := []) ⟨hx, hb, hml, hown, hG⟩ (cX12_say_1 l dC dI h0 h1 h2 h3 h4 h5 h6 h7 h8 h9 h10 h11 h12 h13 h14 h15 h16 h17 y0 s.heap.size 114 x1 x2 x3 x4 x5 x6 x7 x8 x9 x10 x11 x12 x13 x14 x15 x16 x17 x18 x19 x20 x21 x22 x23 x24 x25 x26 x27 x28 x29 x30 x31 x32 x33 x34 x35 x36 x37 x38 x39 x40 x41 x42 x43 x44 x45 x46 x47 x48 x49 x50 x51 x52 x53 x54 z0 f0 ix16 ix17 ix22 ix23 ix24 ix25 ix26 ix27 ix28 ix32 ix33 ix34 ix35 ix36 ix37 ix42 ix43 ix47 ix48 (iv_w ix50 (by decide) (by decide)) ix54 if0) (cwV 1 hG (gV wd_1834 wd_1836 wp_122 wd_17 wd_1837) rfl rfl rfl (by decide +kernel) ⟨Nat.le_of_ble_eq_true rfl, Nat.le_of_ble_eq_true rfl⟩) ⟨fun a U g mk q => by obtain ⟨q0, q1, qP, qK, qD⟩ := q; exact ⟨q0, q1, qP, va_K.moved (u := U) (U := U.calling g mk a) (Vm.Alike.refl U.vm) qK, qD⟩, va_recv hKc hPc (ci := 12) (q0 := 0) rfl rfl, fun U hU hW => ⟨rfl, by rw [hU], by rw [hU]; exact hPc, va_K.moved hW.alike hKc, hDc.weaken (fun _ _ _ _ => trivial)⟩⟩ rfl rfl hl.1 rfl (lv_room (Nat.le_of_ble_eq_true rfl)) dX12_sayRegister_3 ⟨by decide, by decide⟩) hS (fun q _ h => hFc q h) hFc (fun u2 t H1 locs ht hvm hw hB hz1 hk1 hS => ?_)
  obtain ⟨u2_0, u2_1⟩ := u2
  have hw : u2_0.toInt = x50.toInt + 1 ∧ iv u2_0 1 100 ∧ (∀ j, iv (u2_1 j) (-128) 127) ∧ True := hw
  obtain ⟨lu2_0, iu2_0, iu2_1, -⟩ := hw
  have mu2_0 : iv u2_0 1 95 := by have q9 := ix50; exact ⟨by omega, by omega⟩
  obtain ⟨hP1, hK1, hD1⟩ := hB
  rw [ht] at hP1
  have hK1 := va_K.moved hvm.symm hK1
  obtain ⟨hP, hD⟩ := nv_join (wf := [(h0, .inr (12, .int x1 :: .ref h1 :: .ref h2 :: .int x2 :: .int x3 :: .int x4 :: .int x5 :: .int x6 :: .int x7 :: .int x8 :: .int x9 :: .int x10 :: [.int x11, .int x12, .int x13, .int x14, .int x15, .int x16, .ref h3, .ref h4, .ref h5, .ref h6, .int x17, .int x18, .int x19, .int x20, .int x21, .int x22, .int x23, .int x24, .ref h7, .int x25, .int x26, .int x27, .int x28, .ref h8, .ref h9, .int x29, .int x30, .long z0, .int x31, .int x32, .ref h10, .ref h11, .ref h12, .ref h13, .ref h14, .int x33, .int x34, .int x35, .int x36, .int x37, .int x38, .int x39, .int x40, .int x41, .ref h15, .ref h16, .int x42, .int x43, .int x44, .int x45, .int x46, .int x47, .int x48, .int x49, .ref h17, .int u2_0, .int x51, .int x52, .int x53, .int x54])), (h17, .inl (y0, 100, .inl u2_1))]) hP hD [0, 1] [] rfl rfl (by decide) (by decide) hk1 hFc hP1 hD1 rfl
  have hK := (hK.sub (tys' := []) [] rfl).app hK1
  generalize H1 = H at hP hS ⊢
  have hK : va_K (dC, dI) vwCl [(y0, .byte)] s := hK
  clear hKc hPc hDc hFc hP1 hD1 hK1 hk1 hz1
  refine lv_aload_n hx hb dX12_sayRegister_6 rfl (lv_at hl 0 rfl) ?_
  refine lv_iload_n hx hb dX12_sayRegister_7 rfl (lv_at hl 1 rfl) ?_
  obtain ⟨hPc, hDc, hFc⟩ := nv_sub3 (wc := [(h0, .inr (12, .int x1 :: .ref h1 :: .ref h2 :: .int x2 :: .int x3 :: .int x4 :: .int x5 :: .int x6 :: .int x7 :: .int x8 :: .int x9 :: .int x10 :: [.int x11, .int x12, .int x13, .int x14, .int x15, .int x16, .ref h3, .ref h4, .ref h5, .ref h6, .int x17, .int x18, .int x19, .int x20, .int x21, .int x22, .int x23, .int x24, .ref h7, .int x25, .int x26, .int x27, .int x28, .ref h8, .ref h9, .int x29, .int x30, .long z0, .int x31, .int x32, .ref h10, .ref h11, .ref h12, .ref h13, .ref h14, .int x33, .int x34, .int x35, .int x36, .int x37, .int x38, .int x39, .int x40, .int x41, .ref h15, .ref h16, .int x42, .int x43, .int x44, .int x45, .int x46, .int x47, .int x48, .int x49, .ref h17, .int u2_0, .int x51, .int x52, .int x53, .int x54])), (h17, .inl (y0, 100, .inl u2_1))]) hP hD hS hA [0, 1] (by decide) rfl
  have hKc := hK.sub (tys' := [(y0, .byte)]) [0] rfl
  refine va_callv (va_runV (As := [.int x0]) (rest := []) ⟨hx, hb, hml, hown, hG⟩ (cX12_sayNumber_1 l dC dI h0 h1 h2 h3 h4 h5 h6 h7 h8 h9 h10 h11 h12 h13 h14 h15 h16 h17 y0 H.size x0 x1 x2 x3 x4 x5 x6 x7 x8 x9 x10 x11 x12 x13 x14 x15 x16 x17 x18 x19 x20 x21 x22 x23 x24 x25 x26 x27 x28 x29 x30 x31 x32 x33 x34 x35 x36 x37 x38 x39 x40 x41 x42 x43 x44 x45 x46 x47 x48 x49 u2_0 x51 x52 x53 x54 z0 u2_1 ix16 ix17 ix22 ix23 ix24 ix25 ix26 ix27 ix28 ix32 ix33 ix34 ix35 ix36 ix37 ix42 ix43 ix47 ix48 (iv_w mu2_0 (by decide) (by decide)) ix54 iu2_1) (cwV 1 hG (gV wd_1838 wd_1840 wp_123 wd_17 wd_1841) rfl rfl rfl (by decide +kernel) ⟨Nat.le_of_ble_eq_true rfl, Nat.le_of_ble_eq_true rfl⟩) ⟨fun a U g mk q => by obtain ⟨q0, q1, qP, qK, qD⟩ := q; exact ⟨q0, q1, qP, va_K.moved (u := U) (U := U.calling g mk a) (Vm.Alike.refl U.vm) qK, qD⟩, va_recv hKc hPc (ci := 12) (q0 := 0) rfl rfl, fun U hU hW => ⟨rfl, by rw [hU], by rw [hU]; exact hPc, va_K.moved hW.alike hKc, hDc.weaken (fun _ _ _ _ => trivial)⟩⟩ rfl rfl hl.1 rfl (lv_room (Nat.le_of_ble_eq_true rfl)) dX12_sayRegister_8 ⟨by decide, by decide⟩) hS (fun q _ h => hFc q h) hFc (fun u4 t H1 locs ht hvm hw hB hz1 hk1 hS => ?_)
  obtain ⟨u4_0, u4_1⟩ := u4
  have hw : iv u4_0 1 100 ∧ (∀ j, iv (u4_1 j) (-128) 127) ∧ (u4_0.toInt ≤ u2_0.toInt + 5) ∧ True := hw
  obtain ⟨iu4_0, iu4_1, op5, -⟩ := hw
  obtain ⟨hP1, hK1, hD1⟩ := hB
  rw [ht] at hP1
  have hK1 := va_K.moved hvm.symm hK1
  obtain ⟨hP, hD⟩ := nv_join (wf := [(h0, .inr (12, .int x1 :: .ref h1 :: .ref h2 :: .int x2 :: .int x3 :: .int x4 :: .int x5 :: .int x6 :: .int x7 :: .int x8 :: .int x9 :: .int x10 :: [.int x11, .int x12, .int x13, .int x14, .int x15, .int x16, .ref h3, .ref h4, .ref h5, .ref h6, .int x17, .int x18, .int x19, .int x20, .int x21, .int x22, .int x23, .int x24, .ref h7, .int x25, .int x26, .int x27, .int x28, .ref h8, .ref h9, .int x29, .int x30, .long z0, .int x31, .int x32, .ref h10, .ref h11, .ref h12, .ref h13, .ref h14, .int x33, .int x34, .int x35, .int x36, .int x37, .int x38, .int x39, .int x40, .int x41, .ref h15, .ref h16, .int x42, .int x43, .int x44, .int x45, .int x46, .int x47, .int x48, .int x49, .ref h17, .int u4_0, .int x51, .int x52, .int x53, .int x54])), (h17, .inl (y0, 100, .inl u4_1))]) hP hD [0, 1] [] rfl rfl (by decide) (by decide) hk1 hFc hP1 hD1 rfl
  have hK := (hK.sub (tys' := []) [] rfl).app hK1
  generalize H1 = H at hP hS ⊢
  have hK : va_K (dC, dI) vwCl [(y0, .byte)] s := hK
  clear hKc hPc hDc hFc hP1 hD1 hK1 hk1 hz1
  rw [hQ]
  obtain ⟨hP9, hD9⟩ := nv_sub2 (wc := [(h0, .inr (12, .int x1 :: .ref h1 :: .ref h2 :: .int x2 :: .int x3 :: .int x4 :: .int x5 :: .int x6 :: .int x7 :: .int x8 :: .int x9 :: .int x10 :: [.int x11, .int x12, .int x13, .int x14, .int x15, .int x16, .ref h3, .ref h4, .ref h5, .ref h6, .int x17, .int x18, .int x19, .int x20, .int x21, .int x22, .int x23, .int x24, .ref h7, .int x25, .int x26, .int x27, .int x28, .ref h8, .ref h9, .int x29, .int x30, .long z0, .int x31, .int x32, .ref h10, .ref h11, .ref h12, .ref h13, .ref h14, .int x33, .int x34, .int x35, .int x36, .int x37, .int x38, .int x39, .int x40, .int x41, .ref h15, .ref h16, .int x42, .int x43, .int x44, .int x45, .int x46, .int x47, .int x48, .int x49, .ref h17, .int u4_0, .int x51, .int x52, .int x53, .int x54])), (h17, .inl (y0, 100, .inl u4_1))]) hP hD [0, 1] (by decide) rfl
  have hK9 := hK.sub (tys' := [(y0, .byte)]) [0] rfl
  have oh6 : u4_0.toInt ≤ x50.toInt + 6 := by omega
  exact W.vret hx hb hr (fun t ht hW => ⟨⟨(u4_0, u4_1), rfl, ⟨iv_w iu4_0 (by decide) (by decide), (fun j => iv_w (iu4_1 j) (by decide) (by decide)), oh6, trivial⟩, by rw [ht]; exact hP9, va_K.moved hW.alike hK9, hD9⟩, hS.F ht⟩) hS.2.2 dX12_sayRegister_11
