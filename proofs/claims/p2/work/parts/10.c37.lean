set_option maxHeartbeats 100000000 in
set_option maxRecDepth 100000 in
theorem cX12_set_1 (l : Launch) (dC : Nat → ClassId) (dI : Nat → Nat → Nat) (h0 h1 h2 h3 h4 h5 h6 h7 h8 h9 h10 h11 h12 h13 h14 h15 h16 h17 : Nat) (y0 : ClassId) (sz : Nat) (x0 x1 x2 x3 x4 x5 x6 x7 x8 x9 x10 x11 x12 x13 x14 x15 x16 x17 x18 x19 x20 x21 x22 x23 x24 x25 x26 x27 x28 x29 x30 x31 x32 x33 x34 x35 x36 x37 x38 x39 x40 x41 x42 x43 x44 x45 x46 x47 x48 x49 x50 x51 x52 x53 x54 x55 : Int32) (z0 : Int64) (f0 : Nat → Int32) (ix17 : iv x17 0 1) (ix18 : iv x18 0 40) (ix23 : iv x23 0 65535) (ix24 : iv x24 0 1) (ix25 : iv x25 0 1) (ix26 : iv x26 0 2600) (ix27 : iv x27 0 2600) (ix28 : iv x28 0 2500) (ix29 : iv x29 0 2500) (ix33 : iv x33 0 1048575) (ix34 : iv x34 0 60) (ix35 : iv x35 0 60) (ix36 : iv x36 0 1) (ix37 : iv x37 0 1) (ix38 : iv x38 0 65535) (ix43 : iv x43 0 5200) (ix44 : iv x44 0 70800) (ix48 : iv x48 0 1) (ix49 : iv x49 0 1) (ix51 : iv x51 0 100) (ix55 : iv x55 0 1) (if0 : ∀ j, iv (f0 j) 0 65535) : Met l yX12_set (Cond.code yX12_set cX12_set 3 none :: lw_G) ({ frames := 1, cells := 0, slots := 0, locals := 22 }) (va_Pc [.ref h0, .int x0, .int x1] (fun U => U.heap.size = sz ∧ va_P (dC, dI) vwCl [(h0, .inr (12, .int x2 :: .ref h1 :: .ref h2 :: .int x3 :: .int x4 :: .int x5 :: .int x6 :: .int x7 :: .int x8 :: .int x9 :: .int x10 :: .int x11 :: [.int x12, .int x13, .int x14, .int x15, .int x16, .int x17, .ref h3, .ref h4, .ref h5, .ref h6, .int x18, .int x19, .int x20, .int x21, .int x22, .int x23, .int x24, .int x25, .ref h7, .int x26, .int x27, .int x28, .int x29, .ref h8, .ref h9, .int x30, .int x31, .long z0, .int x32, .int x33, .ref h10, .ref h11, .ref h12, .ref h13, .ref h14, .int x34, .int x35, .int x36, .int x37, .int x38, .int x39, .int x40, .int x41, .int x42, .ref h15, .ref h16, .int x43, .int x44, .int x45, .int x46, .int x47, .int x48, .int x49, .int x50, .ref h17, .int x51, .int x52, .int x53, .int x54, .int x55])), (h2, .inl (y0, 16, .inl f0))] U.heap ∧ va_K (dC, dI) vwCl [(y0, .int)] U ∧ va_D (fun _ => True) [(h0, .inr (12, .int x2 :: .ref h1 :: .ref h2 :: .int x3 :: .int x4 :: .int x5 :: .int x6 :: .int x7 :: .int x8 :: .int x9 :: .int x10 :: .int x11 :: [.int x12, .int x13, .int x14, .int x15, .int x16, .int x17, .ref h3, .ref h4, .ref h5, .ref h6, .int x18, .int x19, .int x20, .int x21, .int x22, .int x23, .int x24, .int x25, .ref h7, .int x26, .int x27, .int x28, .int x29, .ref h8, .ref h9, .int x30, .int x31, .long z0, .int x32, .int x33, .ref h10, .ref h11, .ref h12, .ref h13, .ref h14, .int x34, .int x35, .int x36, .int x37, .int x38, .int x39, .int x40, .int x41, .int x42, .ref h15, .ref h16, .int x43, .int x44, .int x45, .int x46, .int x47, .int x48, .int x49, .int x50, .ref h17, .int x51, .int x52, .int x53, .int x54, .int x55])), (h2, .inl (y0, 16, .inl f0))])) (va_Qv (fun (u : Int32 × (Nat → Int32)) => iv u.1 0 1 ∧ (∀ j, iv (u.2 j) 0 65535) ∧ True) (fun (u : Int32 × (Nat → Int32)) (t : State) => va_P (dC, dI) vwCl [(h0, .inr (12, .int u.1 :: .ref h1 :: .ref h2 :: .int x3 :: .int x4 :: .int x5 :: .int x6 :: .int x7 :: .int x8 :: .int x9 :: .int x10 :: .int x11 :: [.int x12, .int x13, .int x14, .int x15, .int x16, .int x17, .ref h3, .ref h4, .ref h5, .ref h6, .int x18, .int x19, .int x20, .int x21, .int x22, .int x23, .int x24, .int x25, .ref h7, .int x26, .int x27, .int x28, .int x29, .ref h8, .ref h9, .int x30, .int x31, .long z0, .int x32, .int x33, .ref h10, .ref h11, .ref h12, .ref h13, .ref h14, .int x34, .int x35, .int x36, .int x37, .int x38, .int x39, .int x40, .int x41, .int x42, .ref h15, .ref h16, .int x43, .int x44, .int x45, .int x46, .int x47, .int x48, .int x49, .int x50, .ref h17, .int x51, .int x52, .int x53, .int x54, .int x55])), (h2, .inl (y0, 16, .inl u.2))] t.heap ∧ va_K (dC, dI) vwCl [(y0, .int)] t ∧ va_D (va_A [(h0, .inr (12, .int x2 :: .ref h1 :: .ref h2 :: .int x3 :: .int x4 :: .int x5 :: .int x6 :: .int x7 :: .int x8 :: .int x9 :: .int x10 :: .int x11 :: [.int x12, .int x13, .int x14, .int x15, .int x16, .int x17, .ref h3, .ref h4, .ref h5, .ref h6, .int x18, .int x19, .int x20, .int x21, .int x22, .int x23, .int x24, .int x25, .ref h7, .int x26, .int x27, .int x28, .int x29, .ref h8, .ref h9, .int x30, .int x31, .long z0, .int x32, .int x33, .ref h10, .ref h11, .ref h12, .ref h13, .ref h14, .int x34, .int x35, .int x36, .int x37, .int x38, .int x39, .int x40, .int x41, .int x42, .ref h15, .ref h16, .int x43, .int x44, .int x45, .int x46, .int x47, .int x48, .int x49, .int x50, .ref h17, .int x51, .int x52, .int x53, .int x54, .int x55])), (h2, .inl (y0, 16, .inl f0))] sz) [(h0, .inr (12, .int u.1 :: .ref h1 :: .ref h2 :: .int x3 :: .int x4 :: .int x5 :: .int x6 :: .int x7 :: .int x8 :: .int x9 :: .int x10 :: .int x11 :: [.int x12, .int x13, .int x14, .int x15, .int x16, .int x17, .ref h3, .ref h4, .ref h5, .ref h6, .int x18, .int x19, .int x20, .int x21, .int x22, .int x23, .int x24, .int x25, .ref h7, .int x26, .int x27, .int x28, .int x29, .ref h8, .ref h9, .int x30, .int x31, .long z0, .int x32, .int x33, .ref h10, .ref h11, .ref h12, .ref h13, .ref h14, .int x34, .int x35, .int x36, .int x37, .int x38, .int x39, .int x40, .int x41, .int x42, .ref h15, .ref h16, .int x43, .int x44, .int x45, .int x46, .int x47, .int x48, .int x49, .int x50, .ref h17, .int x51, .int x52, .int x53, .int x54, .int x55])), (h2, .inl (y0, 16, .inl u.2))]) (va_A [(h0, .inr (12, .int x2 :: .ref h1 :: .ref h2 :: .int x3 :: .int x4 :: .int x5 :: .int x6 :: .int x7 :: .int x8 :: .int x9 :: .int x10 :: .int x11 :: [.int x12, .int x13, .int x14, .int x15, .int x16, .int x17, .ref h3, .ref h4, .ref h5, .ref h6, .int x18, .int x19, .int x20, .int x21, .int x22, .int x23, .int x24, .int x25, .ref h7, .int x26, .int x27, .int x28, .int x29, .ref h8, .ref h9, .int x30, .int x31, .long z0, .int x32, .int x33, .ref h10, .ref h11, .ref h12, .ref h13, .ref h14, .int x34, .int x35, .int x36, .int x37, .int x38, .int x39, .int x40, .int x41, .int x42, .ref h15, .ref h16, .int x43, .int x44, .int x45, .int x46, .int x47, .int x48, .int x49, .int x50, .ref h17, .int x51, .int x52, .int x53, .int x54, .int x55])), (h2, .inl (y0, 16, .inl f0))] sz)) 0 0 (va_A [(h0, .inr (12, .int x2 :: .ref h1 :: .ref h2 :: .int x3 :: .int x4 :: .int x5 :: .int x6 :: .int x7 :: .int x8 :: .int x9 :: .int x10 :: .int x11 :: [.int x12, .int x13, .int x14, .int x15, .int x16, .int x17, .ref h3, .ref h4, .ref h5, .ref h6, .int x18, .int x19, .int x20, .int x21, .int x22, .int x23, .int x24, .int x25, .ref h7, .int x26, .int x27, .int x28, .int x29, .ref h8, .ref h9, .int x30, .int x31, .long z0, .int x32, .int x33, .ref h10, .ref h11, .ref h12, .ref h13, .ref h14, .int x34, .int x35, .int x36, .int x37, .int x38, .int x39, .int x40, .int x41, .int x42, .ref h15, .ref h16, .int x43, .int x44, .int x45, .int x46, .int x47, .int x48, .int x49, .int x50, .ref h17, .int x51, .int x52, .int x53, .int x54, .int x55])), (h2, .inl (y0, 16, .inl f0))] sz) := by
  refine Met.ofW (cc := cX12_set) (maxL := 3) (ret := none) (by decide) rfl ?_
  intro p e s m args below meth c s₁ B hml hv
  obtain ⟨rfl, hsz, hP, hK, hD0⟩ := hv
  have hx := B.exec
  have hb := B.bytes
  have hr := B.returns
  have hts0 := atoms_spec (ws := Cond.code yX12_set cX12_set 3 none :: lw_G) B.pre
  have hG : ∀ w ∈ lw_G, w.before _ s = true := fun w h => hts0 w (List.mem_cons_of_mem _ h)
  have hown : s.vm.findClass RX12 = some m.cls := findClass_of_methodNamed B.named
  have hlocks := B.notSynchronized
  subst hsz
  have hD := hD0.self (sz := s.heap.size)
  generalize hAe : va_A [(h0, .inr (12, .int x2 :: .ref h1 :: .ref h2 :: .int x3 :: .int x4 :: .int x5 :: .int x6 :: .int x7 :: .int x8 :: .int x9 :: .int x10 :: .int x11 :: [.int x12, .int x13, .int x14, .int x15, .int x16, .int x17, .ref h3, .ref h4, .ref h5, .ref h6, .int x18, .int x19, .int x20, .int x21, .int x22, .int x23, .int x24, .int x25, .ref h7, .int x26, .int x27, .int x28, .int x29, .ref h8, .ref h9, .int x30, .int x31, .long z0, .int x32, .int x33, .ref h10, .ref h11, .ref h12, .ref h13, .ref h14, .int x34, .int x35, .int x36, .int x37, .int x38, .int x39, .int x40, .int x41, .int x42, .ref h15, .ref h16, .int x43, .int x44, .int x45, .int x46, .int x47, .int x48, .int x49, .int x50, .ref h17, .int x51, .int x52, .int x53, .int x54, .int x55])), (h2, .inl (y0, 16, .inl f0))] s.heap.size = A at hD ⊢
  have hA : ∀ q : Nat, s.heap.size ≤ q → A q := fun q h => by rw [← hAe]; exact Or.inr h
  have hS : va_S A s.heap s.heap [] := va_S.rf
  have hP : va_P (dC, dI) vwCl [(h0, .inr (12, .int x2 :: .ref h1 :: .ref h2 :: .int x3 :: .int x4 :: .int x5 :: .int x6 :: .int x7 :: .int x8 :: .int x9 :: .int x10 :: .int x11 :: [.int x12, .int x13, .int x14, .int x15, .int x16, .int x17, .ref h3, .ref h4, .ref h5, .ref h6, .int x18, .int x19, .int x20, .int x21, .int x22, .int x23, .int x24, .int x25, .ref h7, .int x26, .int x27, .int x28, .int x29, .ref h8, .ref h9, .int x30, .int x31, .long z0, .int x32, .int x33, .ref h10, .ref h11, .ref h12, .ref h13, .ref h14, .int x34, .int x35, .int x36, .int x37, .int x38, .int x39, .int x40, .int x41, .int x42, .ref h15, .ref h16, .int x43, .int x44, .int x45, .int x46, .int x47, .int x48, .int x49, .int x50, .ref h17, .int x51, .int x52, .int x53, .int x54, .int x55])), (h2, .inl (y0, 16, .inl f0))] s.heap := hP
  have hl := lv_entry ([.ref h0, .int x0, .int x1]) (n := 3) (Nat.le_of_ble_eq_true rfl)
  rw [lg_entry_eq]
  generalize (lg_sl ([.ref h0, .int x0, .int x1]) ++ List.replicate (3 - (lg_sl ([.ref h0, .int x0, .int x1])).length) Slot.unset).toArray = ls at hl ⊢
  have hl : lv_has ls 3 [(0, .ref h0), (1, .int x0), (2, .int x1)] := hl
  generalize ([.ref h0, .int x0, .int x1] : List Value).toArray = ar at hG ⊢
  refine wq (fun Q hQ => ?_)
  refine lv_aload_n hx hb dX12_set_0 rfl (lv_at hl 0 rfl) ?_
  refine lv_iload_n hx hb dX12_set_1 rfl (lv_at hl 1 rfl) ?_
  refine lv_if_lt (tgt := 11) hx hb dX12_set_2 (by decide) (fun c1 => ?_) (fun c1 => ?_)
  · skip
    have j2 : iv x0 (-2147483648) (-1) := iv_ltL (iv_any x0) (by decide : iv 0 0 0) c1 (by decide)
    refine lv_iconst (v := 1) hx hb dX12_set_11 (by decide) ?_
    refine lv_goto (tgt := 16) hx hb dX12_set_12 (by decide) ?_
    obtain ⟨hPc, hDc, hFc⟩ := nv_sub3 (wc := [(h0, .inr (12, .int x2 :: .ref h1 :: .ref h2 :: .int x3 :: .int x4 :: .int x5 :: .int x6 :: .int x7 :: .int x8 :: .int x9 :: .int x10 :: .int x11 :: [.int x12, .int x13, .int x14, .int x15, .int x16, .int x17, .ref h3, .ref h4, .ref h5, .ref h6, .int x18, .int x19, .int x20, .int x21, .int x22, .int x23, .int x24, .int x25, .ref h7, .int x26, .int x27, .int x28, .int x29, .ref h8, .ref h9, .int x30, .int x31, .long z0, .int x32, .int x33, .ref h10, .ref h11, .ref h12, .ref h13, .ref h14, .int x34, .int x35, .int x36, .int x37, .int x38, .int x39, .int x40, .int x41, .int x42, .ref h15, .ref h16, .int x43, .int x44, .int x45, .int x46, .int x47, .int x48, .int x49, .int x50, .ref h17, .int x51, .int x52, .int x53, .int x54, .int x55]))]) hP hD hS hA [0] (by decide) rfl
    have hKc := hK.sub (tys' := []) [] rfl
    refine va_calli (va_runV (As := [.int 1]) (rest := []) ⟨hx, hb, hml, hown, hG⟩ (cX12_throwsIf_1 l dC dI h0 h1 h2 h3 h4 h5 h6 h7 h8 h9 h10 h11 h12 h13 h14 h15 h16 h17 s.heap.size x2 x3 x4 x5 x6 x7 x8 x9 x10 x11 x12 x13 x14 x15 x16 x17 x18 x19 x20 x21 x22 x23 x24 x25 x26 x27 x28 x29 x30 x31 x32 x33 x34 x35 x36 x37 x38 x39 x40 x41 x42 x43 x44 x45 x46 x47 x48 x49 x50 x51 x52 x53 x54 x55 z0 ix17 ix18 ix23 ix24 ix25 ix26 ix27 ix28 ix29 ix33 ix34 ix35 ix36 ix37 ix38 ix43 ix44 ix48 ix49 ix51 ix55) (cwV 1 hG (gV wd_1562 wd_1564 wp_71 wd_17 wd_1565) rfl rfl rfl (by decide +kernel) ⟨Nat.le_of_ble_eq_true rfl, Nat.le_of_ble_eq_true rfl⟩) ⟨fun a U g mk q => by obtain ⟨q0, q1, qP, qK, qD⟩ := q; exact ⟨q0, q1, qP, va_K.moved (u := U) (U := U.calling g mk a) (Vm.Alike.refl U.vm) qK, qD⟩, va_recv hKc hPc (ci := 12) (q0 := 0) rfl rfl, fun U hU hW => ⟨rfl, by rw [hU], by rw [hU]; exact hPc, va_K.moved hW.alike hKc, hDc.weaken (fun _ _ _ _ => trivial)⟩⟩ rfl rfl hl.1 rfl (lv_room (Nat.le_of_ble_eq_true rfl)) dX12_set_16 ⟨by decide, by decide⟩) hS (fun q _ h => hFc q h) hFc (fun r3 u4 t H1 locs ht hvm hw hB hz1 hk1 hS => ?_)
    have hw : r3 = 1 ∧ True := hw
    obtain ⟨er3, -⟩ := hw
    obtain ⟨hP1, hK1, hD1⟩ := hB
    rw [ht] at hP1
    have hK1 := va_K.moved hvm.symm hK1
    obtain ⟨hP, hD⟩ := nv_join (wf := [(h2, .inl (y0, 16, .inl f0)), (h0, .inr (12, .int 1 :: .ref h1 :: .ref h2 :: .int x3 :: .int x4 :: .int x5 :: .int x6 :: .int x7 :: .int x8 :: .int x9 :: .int x10 :: .int x11 :: [.int x12, .int x13, .int x14, .int x15, .int x16, .int x17, .ref h3, .ref h4, .ref h5, .ref h6, .int x18, .int x19, .int x20, .int x21, .int x22, .int x23, .int x24, .int x25, .ref h7, .int x26, .int x27, .int x28, .int x29, .ref h8, .ref h9, .int x30, .int x31, .long z0, .int x32, .int x33, .ref h10, .ref h11, .ref h12, .ref h13, .ref h14, .int x34, .int x35, .int x36, .int x37, .int x38, .int x39, .int x40, .int x41, .int x42, .ref h15, .ref h16, .int x43, .int x44, .int x45, .int x46, .int x47, .int x48, .int x49, .int x50, .ref h17, .int x51, .int x52, .int x53, .int x54, .int x55]))]) hP hD [0] [1] rfl rfl (by decide) (by decide) hk1 hFc hP1 hD1 rfl
    have hK := (hK.sub (tys' := [(y0, .int)]) [0] rfl).app hK1
    generalize H1 = H at hP hS ⊢
    have hK : va_K (dC, dI) vwCl [(y0, .int)] s := hK
    clear hKc hPc hDc hFc hP1 hD1 hK1 hk1 hz1
    subst er3
    refine lv_if_eq (tgt := 23) hx hb dX12_set_19 (by decide) (fun c => absurd c (by decide)) (fun _ => ?_)
    rw [hQ]
    obtain ⟨hP9, hD9⟩ := nv_sub2 (wc := [(h0, .inr (12, .int 1 :: .ref h1 :: .ref h2 :: .int x3 :: .int x4 :: .int x5 :: .int x6 :: .int x7 :: .int x8 :: .int x9 :: .int x10 :: .int x11 :: [.int x12, .int x13, .int x14, .int x15, .int x16, .int x17, .ref h3, .ref h4, .ref h5, .ref h6, .int x18, .int x19, .int x20, .int x21, .int x22, .int x23, .int x24, .int x25, .ref h7, .int x26, .int x27, .int x28, .int x29, .ref h8, .ref h9, .int x30, .int x31, .long z0, .int x32, .int x33, .ref h10, .ref h11, .ref h12, .ref h13, .ref h14, .int x34, .int x35, .int x36, .int x37, .int x38, .int x39, .int x40, .int x41, .int x42, .ref h15, .ref h16, .int x43, .int x44, .int x45, .int x46, .int x47, .int x48, .int x49, .int x50, .ref h17, .int x51, .int x52, .int x53, .int x54, .int x55])), (h2, .inl (y0, 16, .inl f0))]) hP hD [1, 0] (by decide) rfl
    have hK9 := hK.sub (tys' := [(y0, .int)]) [0] rfl
    exact W.vret hx hb hr (fun t ht hW => ⟨⟨(1, f0), rfl, ⟨iv_w (by decide : iv 1 1 1) (by decide) (by decide), (fun j => iv_w (if0 j) (by decide) (by decide)), trivial⟩, by rw [ht]; exact hP9, va_K.moved hW.alike hK9, hD9⟩, hS.F ht⟩) hS.2.2 dX12_set_22
  · skip
    have j5 : iv x0 0 2147483647 := iv_nltL (iv_any x0) (by decide : iv 0 0 0) c1 (by decide)
    refine lv_iload_n hx hb dX12_set_5 rfl (lv_at hl 1 rfl) ?_
    refine lv_bipush (v := 15) hx hb dX12_set_6 (by decide) ?_
    refine lv_icmp_le (tgt := 15) hx hb dX12_set_8 (by decide) (fun c6 => ?_) (fun c6 => ?_)
    · skip
      have j7 : iv x0 0 15 := iv_leL j5 (by decide : iv 15 15 15) c6 (by decide)
      refine lv_iconst (v := 0) hx hb dX12_set_15 (by decide) ?_
      obtain ⟨hPc, hDc, hFc⟩ := nv_sub3 (wc := [(h0, .inr (12, .int x2 :: .ref h1 :: .ref h2 :: .int x3 :: .int x4 :: .int x5 :: .int x6 :: .int x7 :: .int x8 :: .int x9 :: .int x10 :: .int x11 :: [.int x12, .int x13, .int x14, .int x15, .int x16, .int x17, .ref h3, .ref h4, .ref h5, .ref h6, .int x18, .int x19, .int x20, .int x21, .int x22, .int x23, .int x24, .int x25, .ref h7, .int x26, .int x27, .int x28, .int x29, .ref h8, .ref h9, .int x30, .int x31, .long z0, .int x32, .int x33, .ref h10, .ref h11, .ref h12, .ref h13, .ref h14, .int x34, .int x35, .int x36, .int x37, .int x38, .int x39, .int x40, .int x41, .int x42, .ref h15, .ref h16, .int x43, .int x44, .int x45, .int x46, .int x47, .int x48, .int x49, .int x50, .ref h17, .int x51, .int x52, .int x53, .int x54, .int x55]))]) hP hD hS hA [0] (by decide) rfl
      have hKc := hK.sub (tys' := []) [] rfl
      refine va_calli (va_runV (As := [.int 0]) (rest := []) ⟨hx, hb, hml, hown, hG⟩ (cX12_throwsIf_2 l dC dI h0 h1 h2 h3 h4 h5 h6 h7 h8 h9 h10 h11 h12 h13 h14 h15 h16 h17 s.heap.size x2 x3 x4 x5 x6 x7 x8 x9 x10 x11 x12 x13 x14 x15 x16 x17 x18 x19 x20 x21 x22 x23 x24 x25 x26 x27 x28 x29 x30 x31 x32 x33 x34 x35 x36 x37 x38 x39 x40 x41 x42 x43 x44 x45 x46 x47 x48 x49 x50 x51 x52 x53 x54 x55 z0 ix17 ix18 ix23 ix24 ix25 ix26 ix27 ix28 ix29 ix33 ix34 ix35 ix36 ix37 ix38 ix43 ix44 ix48 ix49 ix51 ix55) (cwV 1 hG (gV wd_1562 wd_1564 wp_71 wd_17 wd_1565) rfl rfl rfl (by decide +kernel) ⟨Nat.le_of_ble_eq_true rfl, Nat.le_of_ble_eq_true rfl⟩) ⟨fun a U g mk q => by obtain ⟨q0, q1, qP, qK, qD⟩ := q; exact ⟨q0, q1, qP, va_K.moved (u := U) (U := U.calling g mk a) (Vm.Alike.refl U.vm) qK, qD⟩, va_recv hKc hPc (ci := 12) (q0 := 0) rfl rfl, fun U hU hW => ⟨rfl, by rw [hU], by rw [hU]; exact hPc, va_K.moved hW.alike hKc, hDc.weaken (fun _ _ _ _ => trivial)⟩⟩ rfl rfl hl.1 rfl (lv_room (Nat.le_of_ble_eq_true rfl)) dX12_set_16 ⟨by decide, by decide⟩) hS (fun q _ h => hFc q h) hFc (fun r8 u9 t H1 locs ht hvm hw hB hz1 hk1 hS => ?_)
      have hw : r8 = 0 ∧ True := hw
      obtain ⟨er8, -⟩ := hw
      obtain ⟨hP1, hK1, hD1⟩ := hB
      rw [ht] at hP1
      have hK1 := va_K.moved hvm.symm hK1
      obtain ⟨hP, hD⟩ := nv_join (wf := [(h2, .inl (y0, 16, .inl f0)), (h0, .inr (12, .int 0 :: .ref h1 :: .ref h2 :: .int x3 :: .int x4 :: .int x5 :: .int x6 :: .int x7 :: .int x8 :: .int x9 :: .int x10 :: .int x11 :: [.int x12, .int x13, .int x14, .int x15, .int x16, .int x17, .ref h3, .ref h4, .ref h5, .ref h6, .int x18, .int x19, .int x20, .int x21, .int x22, .int x23, .int x24, .int x25, .ref h7, .int x26, .int x27, .int x28, .int x29, .ref h8, .ref h9, .int x30, .int x31, .long z0, .int x32, .int x33, .ref h10, .ref h11, .ref h12, .ref h13, .ref h14, .int x34, .int x35, .int x36, .int x37, .int x38, .int x39, .int x40, .int x41, .int x42, .ref h15, .ref h16, .int x43, .int x44, .int x45, .int x46, .int x47, .int x48, .int x49, .int x50, .ref h17, .int x51, .int x52, .int x53, .int x54, .int x55]))]) hP hD [0] [1] rfl rfl (by decide) (by decide) hk1 hFc hP1 hD1 rfl
      have hK := (hK.sub (tys' := [(y0, .int)]) [0] rfl).app hK1
      generalize H1 = H at hP hS ⊢
      have hK : va_K (dC, dI) vwCl [(y0, .int)] s := hK
      clear hKc hPc hDc hFc hP1 hD1 hK1 hk1 hz1
      subst er8
      refine lv_if_eq (tgt := 23) hx hb dX12_set_19 (by decide) (fun _ => ?_) (fun c => absurd (by decide) c)
      refine lv_aload_n hx hb dX12_set_23 rfl (lv_at hl 0 rfl) ?_
      refine lv_iload_n hx hb dX12_set_24 rfl (lv_at hl 1 rfl) ?_
      refine lv_iload_n hx hb dX12_set_25 rfl (lv_at hl 2 rfl) ?_
      obtain ⟨hPc, hDc, hFc⟩ := nv_sub3 (wc := [(h0, .inr (12, .int 0 :: .ref h1 :: .ref h2 :: .int x3 :: .int x4 :: .int x5 :: .int x6 :: .int x7 :: .int x8 :: .int x9 :: .int x10 :: .int x11 :: [.int x12, .int x13, .int x14, .int x15, .int x16, .int x17, .ref h3, .ref h4, .ref h5, .ref h6, .int x18, .int x19, .int x20, .int x21, .int x22, .int x23, .int x24, .int x25, .ref h7, .int x26, .int x27, .int x28, .int x29, .ref h8, .ref h9, .int x30, .int x31, .long z0, .int x32, .int x33, .ref h10, .ref h11, .ref h12, .ref h13, .ref h14, .int x34, .int x35, .int x36, .int x37, .int x38, .int x39, .int x40, .int x41, .int x42, .ref h15, .ref h16, .int x43, .int x44, .int x45, .int x46, .int x47, .int x48, .int x49, .int x50, .ref h17, .int x51, .int x52, .int x53, .int x54, .int x55])), (h2, .inl (y0, 16, .inl f0))]) hP hD hS hA [1, 0] (by decide) rfl
      have hKc := hK.sub (tys' := [(y0, .int)]) [0] rfl
      refine va_callv (va_runV (As := [.int x0, .int x1]) (rest := []) ⟨hx, hb, hml, hown, hG⟩ (cX12_write_1 l dC dI h0 h1 h2 h3 h4 h5 h6 h7 h8 h9 h10 h11 h12 h13 h14 h15 h16 h17 y0 H.size x0 x1 0 x3 x4 x5 x6 x7 x8 x9 x10 x11 x12 x13 x14 x15 x16 x17 x18 x19 x20 x21 x22 x23 x24 x25 x26 x27 x28 x29 x30 x31 x32 x33 x34 x35 x36 x37 x38 x39 x40 x41 x42 x43 x44 x45 x46 x47 x48 x49 x50 x51 x52 x53 x54 x55 z0 f0 j7 ix17 ix18 ix23 ix24 ix25 ix26 ix27 ix28 ix29 ix33 ix34 ix35 ix36 ix37 ix38 ix43 ix44 ix48 ix49 ix51 ix55 if0) (cwV 2 hG (gV wd_1549 wd_1551 wp_70 wd_17 wd_1552) rfl rfl rfl (by decide +kernel) ⟨Nat.le_of_ble_eq_true rfl, Nat.le_of_ble_eq_true rfl⟩) ⟨fun a U g mk q => by obtain ⟨q0, q1, qP, qK, qD⟩ := q; exact ⟨q0, q1, qP, va_K.moved (u := U) (U := U.calling g mk a) (Vm.Alike.refl U.vm) qK, qD⟩, va_recv hKc hPc (ci := 12) (q0 := 0) rfl rfl, fun U hU hW => ⟨rfl, by rw [hU], by rw [hU]; exact hPc, va_K.moved hW.alike hKc, hDc.weaken (fun _ _ _ _ => trivial)⟩⟩ rfl rfl hl.1 rfl (lv_room (Nat.le_of_ble_eq_true rfl)) dX12_set_26 ⟨by decide, by decide⟩) hS (fun q _ h => hFc q h) hFc (fun u11 t H1 locs ht hvm hw hB hz1 hk1 hS => ?_)
      obtain ⟨u11_0, rfl⟩ : ∃ z, z = u11 := ⟨_, rfl⟩
      have hw : (∀ j, iv (u11_0 j) 0 65535) ∧ True := hw
      obtain ⟨iu11_0, -⟩ := hw
      obtain ⟨hP1, hK1, hD1⟩ := hB
      rw [ht] at hP1
      have hK1 := va_K.moved hvm.symm hK1
      obtain ⟨hP, hD⟩ := nv_join (wf := [(h0, .inr (12, .int 0 :: .ref h1 :: .ref h2 :: .int x3 :: .int x4 :: .int x5 :: .int x6 :: .int x7 :: .int x8 :: .int x9 :: .int x10 :: .int x11 :: [.int x12, .int x13, .int x14, .int x15, .int x16, .int x17, .ref h3, .ref h4, .ref h5, .ref h6, .int x18, .int x19, .int x20, .int x21, .int x22, .int x23, .int x24, .int x25, .ref h7, .int x26, .int x27, .int x28, .int x29, .ref h8, .ref h9, .int x30, .int x31, .long z0, .int x32, .int x33, .ref h10, .ref h11, .ref h12, .ref h13, .ref h14, .int x34, .int x35, .int x36, .int x37, .int x38, .int x39, .int x40, .int x41, .int x42, .ref h15, .ref h16, .int x43, .int x44, .int x45, .int x46, .int x47, .int x48, .int x49, .int x50, .ref h17, .int x51, .int x52, .int x53, .int x54, .int x55])), (h2, .inl (y0, 16, .inl u11_0))]) hP hD [1, 0] [] rfl rfl (by decide) (by decide) hk1 hFc hP1 hD1 rfl
      have hK := (hK.sub (tys' := []) [] rfl).app hK1
      generalize H1 = H at hP hS ⊢
      have hK : va_K (dC, dI) vwCl [(y0, .int)] s := hK
      clear hKc hPc hDc hFc hP1 hD1 hK1 hk1 hz1
      rw [hQ]
      obtain ⟨hP9, hD9⟩ := nv_sub2 (wc := [(h0, .inr (12, .int 0 :: .ref h1 :: .ref h2 :: .int x3 :: .int x4 :: .int x5 :: .int x6 :: .int x7 :: .int x8 :: .int x9 :: .int x10 :: .int x11 :: [.int x12, .int x13, .int x14, .int x15, .int x16, .int x17, .ref h3, .ref h4, .ref h5, .ref h6, .int x18, .int x19, .int x20, .int x21, .int x22, .int x23, .int x24, .int x25, .ref h7, .int x26, .int x27, .int x28, .int x29, .ref h8, .ref h9, .int x30, .int x31, .long z0, .int x32, .int x33, .ref h10, .ref h11, .ref h12, .ref h13, .ref h14, .int x34, .int x35, .int x36, .int x37, .int x38, .int x39, .int x40, .int x41, .int x42, .ref h15, .ref h16, .int x43, .int x44, .int x45, .int x46, .int x47, .int x48, .int x49, .int x50, .ref h17, .int x51, .int x52, .int x53, .int x54, .int x55])), (h2, .inl (y0, 16, .inl u11_0))]) hP hD [0, 1] (by decide) rfl
      have hK9 := hK.sub (tys' := [(y0, .int)]) [0] rfl
      exact W.vret hx hb hr (fun t ht hW => ⟨⟨(0, u11_0), rfl, ⟨iv_w (by decide : iv 0 0 0) (by decide) (by decide), (fun j => iv_w (iu11_0 j) (by decide) (by decide)), trivial⟩, by rw [ht]; exact hP9, va_K.moved hW.alike hK9, hD9⟩, hS.F ht⟩) hS.2.2 dX12_set_29
    · skip
      have j12 : iv x0 16 2147483647 := iv_nleL j5 (by decide : iv 15 15 15) c6 (by decide)
      refine lv_iconst (v := 1) hx hb dX12_set_11 (by decide) ?_
      refine lv_goto (tgt := 16) hx hb dX12_set_12 (by decide) ?_
      obtain ⟨hPc, hDc, hFc⟩ := nv_sub3 (wc := [(h0, .inr (12, .int x2 :: .ref h1 :: .ref h2 :: .int x3 :: .int x4 :: .int x5 :: .int x6 :: .int x7 :: .int x8 :: .int x9 :: .int x10 :: .int x11 :: [.int x12, .int x13, .int x14, .int x15, .int x16, .int x17, .ref h3, .ref h4, .ref h5, .ref h6, .int x18, .int x19, .int x20, .int x21, .int x22, .int x23, .int x24, .int x25, .ref h7, .int x26, .int x27, .int x28, .int x29, .ref h8, .ref h9, .int x30, .int x31, .long z0, .int x32, .int x33, .ref h10, .ref h11, .ref h12, .ref h13, .ref h14, .int x34, .int x35, .int x36, .int x37, .int x38, .int x39, .int x40, .int x41, .int x42, .ref h15, .ref h16, .int x43, .int x44, .int x45, .int x46, .int x47, .int x48, .int x49, .int x50, .ref h17, .int x51, .int x52, .int x53, .int x54, .int x55]))]) hP hD hS hA [0] (by decide) rfl
      have hKc := hK.sub (tys' := []) [] rfl
      refine va_calli (va_runV (As := [.int 1]) (rest := []) ⟨hx, hb, hml, hown, hG⟩ (cX12_throwsIf_1 l dC dI h0 h1 h2 h3 h4 h5 h6 h7 h8 h9 h10 h11 h12 h13 h14 h15 h16 h17 s.heap.size x2 x3 x4 x5 x6 x7 x8 x9 x10 x11 x12 x13 x14 x15 x16 x17 x18 x19 x20 x21 x22 x23 x24 x25 x26 x27 x28 x29 x30 x31 x32 x33 x34 x35 x36 x37 x38 x39 x40 x41 x42 x43 x44 x45 x46 x47 x48 x49 x50 x51 x52 x53 x54 x55 z0 ix17 ix18 ix23 ix24 ix25 ix26 ix27 ix28 ix29 ix33 ix34 ix35 ix36 ix37 ix38 ix43 ix44 ix48 ix49 ix51 ix55) (cwV 1 hG (gV wd_1562 wd_1564 wp_71 wd_17 wd_1565) rfl rfl rfl (by decide +kernel) ⟨Nat.le_of_ble_eq_true rfl, Nat.le_of_ble_eq_true rfl⟩) ⟨fun a U g mk q => by obtain ⟨q0, q1, qP, qK, qD⟩ := q; exact ⟨q0, q1, qP, va_K.moved (u := U) (U := U.calling g mk a) (Vm.Alike.refl U.vm) qK, qD⟩, va_recv hKc hPc (ci := 12) (q0 := 0) rfl rfl, fun U hU hW => ⟨rfl, by rw [hU], by rw [hU]; exact hPc, va_K.moved hW.alike hKc, hDc.weaken (fun _ _ _ _ => trivial)⟩⟩ rfl rfl hl.1 rfl (lv_room (Nat.le_of_ble_eq_true rfl)) dX12_set_16 ⟨by decide, by decide⟩) hS (fun q _ h => hFc q h) hFc (fun r13 u14 t H1 locs ht hvm hw hB hz1 hk1 hS => ?_)
      have hw : r13 = 1 ∧ True := hw
      obtain ⟨er13, -⟩ := hw
      obtain ⟨hP1, hK1, hD1⟩ := hB
      rw [ht] at hP1
      have hK1 := va_K.moved hvm.symm hK1
      obtain ⟨hP, hD⟩ := nv_join (wf := [(h2, .inl (y0, 16, .inl f0)), (h0, .inr (12, .int 1 :: .ref h1 :: .ref h2 :: .int x3 :: .int x4 :: .int x5 :: .int x6 :: .int x7 :: .int x8 :: .int x9 :: .int x10 :: .int x11 :: [.int x12, .int x13, .int x14, .int x15, .int x16, .int x17, .ref h3, .ref h4, .ref h5, .ref h6, .int x18, .int x19, .int x20, .int x21, .int x22, .int x23, .int x24, .int x25, .ref h7, .int x26, .int x27, .int x28, .int x29, .ref h8, .ref h9, .int x30, .int x31, .long z0, .int x32, .int x33, .ref h10, .ref h11, .ref h12, .ref h13, .ref h14, .int x34, .int x35, .int x36, .int x37, .int x38, .int x39, .int x40, .int x41, .int x42, .ref h15, .ref h16, .int x43, .int x44, .int x45, .int x46, .int x47, .int x48, .int x49, .int x50, .ref h17, .int x51, .int x52, .int x53, .int x54, .int x55]))]) hP hD [0] [1] rfl rfl (by decide) (by decide) hk1 hFc hP1 hD1 rfl
      have hK := (hK.sub (tys' := [(y0, .int)]) [0] rfl).app hK1
      generalize H1 = H at hP hS ⊢
      have hK : va_K (dC, dI) vwCl [(y0, .int)] s := hK
      clear hKc hPc hDc hFc hP1 hD1 hK1 hk1 hz1
      subst er13
      refine lv_if_eq (tgt := 23) hx hb dX12_set_19 (by decide) (fun c => absurd c (by decide)) (fun _ => ?_)
      rw [hQ]
      obtain ⟨hP9, hD9⟩ := nv_sub2 (wc := [(h0, .inr (12, .int 1 :: .ref h1 :: .ref h2 :: .int x3 :: .int x4 :: .int x5 :: .int x6 :: .int x7 :: .int x8 :: .int x9 :: .int x10 :: .int x11 :: [.int x12, .int x13, .int x14, .int x15, .int x16, .int x17, .ref h3, .ref h4, .ref h5, .ref h6, .int x18, .int x19, .int x20, .int x21, .int x22, .int x23, .int x24, .int x25, .ref h7, .int x26, .int x27, .int x28, .int x29, .ref h8, .ref h9, .int x30, .int x31, .long z0, .int x32, .int x33, .ref h10, .ref h11, .ref h12, .ref h13, .ref h14, .int x34, .int x35, .int x36, .int x37, .int x38, .int x39, .int x40, .int x41, .int x42, .ref h15, .ref h16, .int x43, .int x44, .int x45, .int x46, .int x47, .int x48, .int x49, .int x50, .ref h17, .int x51, .int x52, .int x53, .int x54, .int x55])), (h2, .inl (y0, 16, .inl f0))]) hP hD [1, 0] (by decide) rfl
      have hK9 := hK.sub (tys' := [(y0, .int)]) [0] rfl
      exact W.vret hx hb hr (fun t ht hW => ⟨⟨(1, f0), rfl, ⟨iv_w (by decide : iv 1 1 1) (by decide) (by decide), (fun j => iv_w (if0 j) (by decide) (by decide)), trivial⟩, by rw [ht]; exact hP9, va_K.moved hW.alike hK9, hD9⟩, hS.F ht⟩) hS.2.2 dX12_set_22
set_option maxHeartbeats 100000000 in
set_option maxRecDepth 100000 in
theorem cX11_set_2 (l : Launch) (hst : l.stackTraces = false) (dC : Nat → ClassId) (dI : Nat → Nat → Nat) (adK adV : Nat → Nat) (h0 h1 h2 h3 h4 h5 : Nat) (sz : Nat) (x0 x1 x2 x3 : Int32) (ix0 : iv x0 16 2147483647) (ix2 : iv x2 0 2600) : vx_Met l yX11_set (Cond.code yX11_set cX11_set 3 none :: lw_G) ({ frames := 6, cells := 1, slots := 6, locals := 82 }) (va_Pc [.ref h0, .int x0, .int x1] (fun U => U.heap.size = sz ∧ va_P (dC, dI) vwCl [(h0, .inr (11, [.ref h1, .ref h2, .ref h3, .ref h4, .ref h5, .int x2, .int x3]))] U.heap ∧ va_K (dC, dI) vwCl [] U ∧ va_D (fun _ => True) [(h0, .inr (11, [.ref h1, .ref h2, .ref h3, .ref h4, .ref h5, .int x2, .int x3]))] ∧ ev adK adV (va_A [(h0, .inr (11, [.ref h1, .ref h2, .ref h3, .ref h4, .ref h5, .int x2, .int x3]))] sz) U U.heap)) (va_Qv (fun (_ : Unit) => False) (fun _ _ => True) (va_A [(h0, .inr (11, [.ref h1, .ref h2, .ref h3, .ref h4, .ref h5, .int x2, .int x3]))] sz)) (vx_X (fun (_ : Unit) => True) (fun (E : String) (_ : Unit) (t : State) => E = "java/lang/IndexOutOfBoundsException" ∧ va_P (dC, dI) vwCl [(h0, .inr (11, [.ref h1, .ref h2, .ref h3, .ref h4, .ref h5, .int x2, .int x3]))] t.heap ∧ va_K (dC, dI) vwCl [] t ∧ va_D (va_A [(h0, .inr (11, [.ref h1, .ref h2, .ref h3, .ref h4, .ref h5, .int x2, .int x3]))] sz) [(h0, .inr (11, [.ref h1, .ref h2, .ref h3, .ref h4, .ref h5, .int x2, .int x3]))]) (va_A [(h0, .inr (11, [.ref h1, .ref h2, .ref h3, .ref h4, .ref h5, .int x2, .int x3]))] sz)) 1 6 (va_A [(h0, .inr (11, [.ref h1, .ref h2, .ref h3, .ref h4, .ref h5, .int x2, .int x3]))] sz) := by
  refine vx_ofW (cc := cX11_set) (maxL := 3) (ret := none) (by decide) rfl ?_
  intro p e s m args below meth c s₁ B hml htab hv
  obtain ⟨rfl, hsz, hP, hK, hD0, hE⟩ := hv
  have hx := B.exec
  have hb := B.bytes
  have hr := B.returns
  have hts0 := atoms_spec (ws := Cond.code yX11_set cX11_set 3 none :: lw_G) B.pre
  have hG : ∀ w ∈ lw_G, w.before _ s = true := fun w h => hts0 w (List.mem_cons_of_mem _ h)
  have hown : s.vm.findClass RX11 = some m.cls := findClass_of_methodNamed B.named
  have hlocks := B.notSynchronized
  subst hsz
  have hD := hD0.self (sz := s.heap.size)
  generalize hAe : va_A [(h0, .inr (11, [.ref h1, .ref h2, .ref h3, .ref h4, .ref h5, .int x2, .int x3]))] s.heap.size = A at hD hE ⊢
  have hA : ∀ q : Nat, s.heap.size ≤ q → A q := fun q h => by rw [← hAe]; exact Or.inr h
  have hS : va_S A s.heap s.heap [] := va_S.rf
  have hP : va_P (dC, dI) vwCl [(h0, .inr (11, [.ref h1, .ref h2, .ref h3, .ref h4, .ref h5, .int x2, .int x3]))] s.heap := hP
  have hl := lv_entry ([.ref h0, .int x0, .int x1]) (n := 3) (Nat.le_of_ble_eq_true rfl)
  rw [lg_entry_eq]
  generalize (lg_sl ([.ref h0, .int x0, .int x1]) ++ List.replicate (3 - (lg_sl ([.ref h0, .int x0, .int x1])).length) Slot.unset).toArray = ls at hl ⊢
  have hl : lv_has ls 3 [(0, .ref h0), (1, .int x0), (2, .int x1)] := hl
  refine lv_iload_n hx hb dX11_set_0 rfl (lv_at hl 1 rfl) ?_
  refine lv_if_lt (tgt := 10) hx hb dX11_set_1 (by decide) (fun c => absurd c (iv_nlt ix0 (by decide : iv 0 0 0) (by decide))) (fun _ => ?_)
  refine lv_iload_n hx hb dX11_set_4 rfl (lv_at hl 1 rfl) ?_
  refine lv_bipush (v := 16) hx hb dX11_set_5 (by decide) ?_
  refine lv_icmp_lt (tgt := 20) hx hb dX11_set_7 (by decide) (fun c => absurd c (iv_nlt ix0 (by decide : iv 16 16 16) (by decide))) (fun _ => ?_)
  obtain ⟨hP9, hD9⟩ := nv_sub2 (wc := [(h0, .inr (11, [.ref h1, .ref h2, .ref h3, .ref h4, .ref h5, .int x2, .int x3]))]) hP hD [0] (by decide) rfl
  have hK9 := hK.sub (tys' := []) [] rfl
  refine vx_throwS (own := RX11) (cls := "java/lang/IndexOutOfBoundsException") (text := evT3) (names := ["java/lang/RuntimeException", "java/lang/Exception"]) hx hb hst hown (by decide) (by decide) (hG _ wd_1126) (hG _ wd_24) (evR3 hE) (evA1 hE hG) evG1_106 hE.2.2.2.1 hE.2.2.2.2.1 hS (by rw [hml]; exact hl.1) dX11_set_10 dX11_set_13 dX11_set_14 dX11_set_16 dX11_set_19 (fun x hx9 => (htab x hx9).elim) (by decide) (by decide) (by decide) (by decide) hlocks (fun t hvm9 hz9 hk9 => ⟨(), trivial, ⟨rfl, hP9.kept (fun k q hk => hk9 q.1 (vx_lt hP9 hk)), va_K.moved hvm9 hK9, hD9⟩, Nat.le_trans hS.1 hz9, fun q hq hA9 => (hk9 q (Nat.lt_of_lt_of_le hq hS.1)).trans (hS.2.1 q hq hA9)⟩) hS.2.2 (by decide) (by decide)
set_option maxHeartbeats 100000000 in
set_option maxRecDepth 100000 in
theorem cL_set_2 (l : Launch) (hst : l.stackTraces = false) (dC : Nat → ClassId) (dI : Nat → Nat → Nat) (adK adV : Nat → Nat) (h0 h1 h2 h3 h4 h5 : Nat) (sz : Nat) (x0 x1 x2 x3 : Int32) (ix0 : iv x0 16 2147483647) (ix2 : iv x2 0 2600) : Met l yL_set (Cond.codeWith yL_set cL_set 4 (some .int) [(0, 6, 9, 19)] :: lw_G) ({ frames := 7, cells := 1, slots := 6, locals := 104 }) (va_Pc [.ref h0, .int x0, .int x1] (fun U => U.heap.size = sz ∧ va_P (dC, dI) vwCl [(h0, .inr (11, [.ref h1, .ref h2, .ref h3, .ref h4, .ref h5, .int x2, .int x3]))] U.heap ∧ va_K (dC, dI) vwCl [] U ∧ va_D (fun _ => True) [(h0, .inr (11, [.ref h1, .ref h2, .ref h3, .ref h4, .ref h5, .int x2, .int x3]))] ∧ ev adK adV (va_A [(h0, .inr (11, [.ref h1, .ref h2, .ref h3, .ref h4, .ref h5, .int x2, .int x3]))] sz) U U.heap)) (va_Qi (fun (r : Int32) (u : Unit) => r = 1 ∧ True) (fun (u : Unit) (t : State) => va_P (dC, dI) vwCl [(h0, .inr (11, [.ref h1, .ref h2, .ref h3, .ref h4, .ref h5, .int x2, .int x3]))] t.heap ∧ va_K (dC, dI) vwCl [] t ∧ va_D (va_A [(h0, .inr (11, [.ref h1, .ref h2, .ref h3, .ref h4, .ref h5, .int x2, .int x3]))] sz) [(h0, .inr (11, [.ref h1, .ref h2, .ref h3, .ref h4, .ref h5, .int x2, .int x3]))]) (va_A [(h0, .inr (11, [.ref h1, .ref h2, .ref h3, .ref h4, .ref h5, .int x2, .int x3]))] sz)) 1 6 (va_A [(h0, .inr (11, [.ref h1, .ref h2, .ref h3, .ref h4, .ref h5, .int x2, .int x3]))] sz) := by
  refine va_MetW (cc := cL_set) (maxL := 4) (ret := (some .int)) (by decide) rfl ?_
  intro p e s m args below meth c s₁ B hml hv
  obtain ⟨rfl, hsz, hP, hK, hD0, hE⟩ := hv
  have hx := B.exec
  have hb := B.bytes
  have hr := B.returns
  have hts0 := atoms_spec (ws := Cond.codeWith yL_set cL_set 4 (some .int) [(0, 6, 9, 19)] :: lw_G) B.pre
  have htab := vx_table (x := x) B (hts0 _ List.mem_cons_self)
  have hG : ∀ w ∈ lw_G, w.before _ s = true := fun w h => hts0 w (List.mem_cons_of_mem _ h)
  have hown : s.vm.findClass RL = some m.cls := findClass_of_methodNamed B.named
  have hlocks := B.notSynchronized
  subst hsz
  have hD := hD0.self (sz := s.heap.size)
  generalize hAe : va_A [(h0, .inr (11, [.ref h1, .ref h2, .ref h3, .ref h4, .ref h5, .int x2, .int x3]))] s.heap.size = A at hD hE ⊢
  have hA : ∀ q : Nat, s.heap.size ≤ q → A q := fun q h => by rw [← hAe]; exact Or.inr h
  have hS : va_S A s.heap s.heap [] := va_S.rf
  have hP : va_P (dC, dI) vwCl [(h0, .inr (11, [.ref h1, .ref h2, .ref h3, .ref h4, .ref h5, .int x2, .int x3]))] s.heap := hP
  have hl := lv_entry ([.ref h0, .int x0, .int x1]) (n := 4) (Nat.le_of_ble_eq_true rfl)
  rw [lg_entry_eq]
  generalize (lg_sl ([.ref h0, .int x0, .int x1]) ++ List.replicate (4 - (lg_sl ([.ref h0, .int x0, .int x1])).length) Slot.unset).toArray = ls at hl ⊢
  have hl : lv_has ls 4 [(0, .ref h0), (1, .int x0), (2, .int x1)] := hl
  generalize ([.ref h0, .int x0, .int x1] : List Value).toArray = ar at hG ⊢
  refine wq (fun Q hQ => ?_)
  refine lv_aload_n hx hb dL_set_0 rfl (lv_at hl 0 rfl) ?_
  refine lv_iload_n hx hb dL_set_1 rfl (lv_at hl 1 rfl) ?_
  refine lv_iload_n hx hb dL_set_2 rfl (lv_at hl 2 rfl) ?_
  obtain ⟨hPc, hDc, hFc⟩ := nv_sub3 (wc := [(h0, .inr (11, [.ref h1, .ref h2, .ref h3, .ref h4, .ref h5, .int x2, .int x3]))]) hP hD hS hA [0] (by decide) rfl
  have hKc := hK.sub (tys' := []) [] rfl
  refine vx_callv (vx_runV (As := [.int x0, .int x1]) (rest := []) ⟨hx, hb, hml, hown, hG⟩ (cX11_set_2 l hst dC dI adK adV h0 h1 h2 h3 h4 h5 s.heap.size x0 x1 x2 x3 ix0 ix2) (cwV 2 hG (gV wd_1145 wd_1146 wd_1147 wd_1 wd_1148) rfl rfl rfl (by decide +kernel) ⟨Nat.le_of_ble_eq_true rfl, Nat.le_of_ble_eq_true rfl⟩) ⟨fun a U g mk q => by obtain ⟨q0, q1, qP, qK, qD, qE⟩ := q; exact ⟨q0, q1, qP, va_K.moved (u := U) (U := U.calling g mk a) (Vm.Alike.refl U.vm) qK, qD, qE.same rfl⟩, va_recv hKc hPc (ci := 11) (q0 := 0) rfl rfl, fun U hU hW => ⟨rfl, by rw [hU], by rw [hU]; exact hPc, va_K.moved hW.alike hKc, hDc.weaken (fun _ _ _ _ => trivial), by rw [hU]; exact ((hE.kept hS.2.1).narrow hFc).warm hW⟩⟩ rfl rfl hl.1 rfl (lv_room (Nat.le_of_ble_eq_true rfl)) dL_set_3 ⟨by decide, by decide⟩) hS (fun q _ h => hFc q h) hFc (fun q _ h => hFc q h) (fun E9 ce q1 u9 t H1 locs ht hvm hpx hB hz1 hk1 hS hce hcv hcl => ?_) (fun u t H1 locs ht hvm hw hB hz1 hk1 hS => hw.elim)
  obtain ⟨rfl, hP1, hK1, hD1⟩ := hB
  rw [ht] at hP1
  have hK1 := va_K.moved hvm.symm hK1
  obtain ⟨hP, hD⟩ := nv_join (wf := [(h0, .inr (11, [.ref h1, .ref h2, .ref h3, .ref h4, .ref h5, .int x2, .int x3]))]) hP hD [0] [] rfl rfl (by decide) (by decide) hk1 hFc hP1 hD1 rfl
  have hK := (hK.sub (tys' := []) [] rfl).app hK1
  generalize H1 = H at hP hS hce ⊢
  have hK : va_K (dC, dI) vwCl [] s := hK
  refine vx_widen (k := 1) (n := 6) (by decide) (by decide) ?_
  refine vx_catch (name := "java/lang/IndexOutOfBoundsException") hown [] { startPc := 0, endPc := 6, handlerPc := 9, catchType := 19 } [] (by rw [htab]; rfl) (fun z hz => nomatch hz) (by decide) (by decide) (hG _ wd_1121) (evC1 hE) hce hcv hcl ?_
  refine lv_astore_n (lv' := [(3, .ref q1), (0, .ref h0), (1, .int x0), (2, .int x1)]) hx hb dL_set_9 rfl hl (by decide) rfl (fun ls hl => ?_)
  refine lv_iconst (v := 1) hx hb dL_set_10 (by decide) ?_
  rw [hQ]
  obtain ⟨hP9, hD9⟩ := nv_sub2 (wc := [(h0, .inr (11, [.ref h1, .ref h2, .ref h3, .ref h4, .ref h5, .int x2, .int x3]))]) hP hD [0] (by decide) rfl
  have hK9 := hK.sub (tys' := []) [] rfl
  refine W.widen (k := 1) (n := 6) (by decide) (by decide) ?_
  exact W.iret (v := 1) hx hb hr (fun t ht hW => ⟨⟨1, (), rfl, ⟨rfl, trivial⟩, by rw [ht]; exact hP9, va_K.moved hW.alike hK9, hD9⟩, hS.F ht⟩) hS.2.2 dL_set_11
set_option maxHeartbeats 100000000 in
set_option maxRecDepth 100000 in
theorem cX11_set_3 (l : Launch) (dC : Nat → ClassId) (dI : Nat → Nat → Nat) (h0 h1 h2 h3 h4 h5 h6 h7 : Nat) (y0 : ClassId) (sz : Nat) (x0 x1 x2 x3 x4 x5 x6 x7 x8 : Int32) (f0 : Nat → Int32) (ix0 : iv x0 0 15) (ix2 : iv x2 0 2600) (ix8 : iv x8 0 1) : Met l yX11_set (Cond.code yX11_set cX11_set 3 none :: lw_G) ({ frames := 1, cells := 0, slots := 0, locals := 22 }) (va_Pc [.ref h0, .int x0, .int x1] (fun U => U.heap.size = sz ∧ va_P (dC, dI) vwCl [(h0, .inr (11, [.ref h1, .ref h2, .ref h3, .ref h4, .ref h5, .int x2, .int x3])), (h3, .inr (2, [.ref h6, .ref h7, .ref h2, .int x4, .int x5, .int x6, .int x7, .int x8])), (h6, .inl (y0, 16, .inl f0))] U.heap ∧ va_K (dC, dI) vwCl [(y0, .int)] U ∧ va_D (fun _ => True) [(h0, .inr (11, [.ref h1, .ref h2, .ref h3, .ref h4, .ref h5, .int x2, .int x3])), (h3, .inr (2, [.ref h6, .ref h7, .ref h2, .int x4, .int x5, .int x6, .int x7, .int x8])), (h6, .inl (y0, 16, .inl f0))])) (va_Qv (fun (u : (Nat → Int32)) => True) (fun (u : (Nat → Int32)) (t : State) => va_P (dC, dI) vwCl [(h0, .inr (11, [.ref h1, .ref h2, .ref h3, .ref h4, .ref h5, .int x2, .int x3])), (h3, .inr (2, [.ref h6, .ref h7, .ref h2, .int x4, .int x5, .int x6, .int x7, .int x8])), (h6, .inl (y0, 16, .inl u))] t.heap ∧ va_K (dC, dI) vwCl [(y0, .int)] t ∧ va_D (va_A [(h0, .inr (11, [.ref h1, .ref h2, .ref h3, .ref h4, .ref h5, .int x2, .int x3])), (h3, .inr (2, [.ref h6, .ref h7, .ref h2, .int x4, .int x5, .int x6, .int x7, .int x8])), (h6, .inl (y0, 16, .inl f0))] sz) [(h0, .inr (11, [.ref h1, .ref h2, .ref h3, .ref h4, .ref h5, .int x2, .int x3])), (h3, .inr (2, [.ref h6, .ref h7, .ref h2, .int x4, .int x5, .int x6, .int x7, .int x8])), (h6, .inl (y0, 16, .inl u))]) (va_A [(h0, .inr (11, [.ref h1, .ref h2, .ref h3, .ref h4, .ref h5, .int x2, .int x3])), (h3, .inr (2, [.ref h6, .ref h7, .ref h2, .int x4, .int x5, .int x6, .int x7, .int x8])), (h6, .inl (y0, 16, .inl f0))] sz)) 0 0 (va_A [(h0, .inr (11, [.ref h1, .ref h2, .ref h3, .ref h4, .ref h5, .int x2, .int x3])), (h3, .inr (2, [.ref h6, .ref h7, .ref h2, .int x4, .int x5, .int x6, .int x7, .int x8])), (h6, .inl (y0, 16, .inl f0))] sz) := by
  refine Met.ofW (cc := cX11_set) (maxL := 3) (ret := none) (by decide) rfl ?_
  intro p e s m args below meth c s₁ B hml hv
  obtain ⟨rfl, hsz, hP, hK, hD0⟩ := hv
  have hx := B.exec
  have hb := B.bytes
  have hr := B.returns
  have hts0 := atoms_spec (ws := Cond.code yX11_set cX11_set 3 none :: lw_G) B.pre
  have hG : ∀ w ∈ lw_G, w.before _ s = true := fun w h => hts0 w (List.mem_cons_of_mem _ h)
  have hown : s.vm.findClass RX11 = some m.cls := findClass_of_methodNamed B.named
  have hlocks := B.notSynchronized
  subst hsz
  have hD := hD0.self (sz := s.heap.size)
  generalize hAe : va_A [(h0, .inr (11, [.ref h1, .ref h2, .ref h3, .ref h4, .ref h5, .int x2, .int x3])), (h3, .inr (2, [.ref h6, .ref h7, .ref h2, .int x4, .int x5, .int x6, .int x7, .int x8])), (h6, .inl (y0, 16, .inl f0))] s.heap.size = A at hD ⊢
  have hA : ∀ q : Nat, s.heap.size ≤ q → A q := fun q h => by rw [← hAe]; exact Or.inr h
  have hS : va_S A s.heap s.heap [] := va_S.rf
  have hP : va_P (dC, dI) vwCl [(h0, .inr (11, [.ref h1, .ref h2, .ref h3, .ref h4, .ref h5, .int x2, .int x3])), (h3, .inr (2, [.ref h6, .ref h7, .ref h2, .int x4, .int x5, .int x6, .int x7, .int x8])), (h6, .inl (y0, 16, .inl f0))] s.heap := hP
  have hl := lv_entry ([.ref h0, .int x0, .int x1]) (n := 3) (Nat.le_of_ble_eq_true rfl)
  rw [lg_entry_eq]
  generalize (lg_sl ([.ref h0, .int x0, .int x1]) ++ List.replicate (3 - (lg_sl ([.ref h0, .int x0, .int x1])).length) Slot.unset).toArray = ls at hl ⊢
  have hl : lv_has ls 3 [(0, .ref h0), (1, .int x0), (2, .int x1)] := hl
  generalize ([.ref h0, .int x0, .int x1] : List Value).toArray = ar at hG ⊢
  refine wq (fun Q hQ => ?_)
  refine lv_iload_n hx hb dX11_set_0 rfl (lv_at hl 1 rfl) ?_
  refine lv_if_lt (tgt := 10) hx hb dX11_set_1 (by decide) (fun c => absurd c (iv_nlt ix0 (by decide : iv 0 0 0) (by decide))) (fun _ => ?_)
  refine lv_iload_n hx hb dX11_set_4 rfl (lv_at hl 1 rfl) ?_
  refine lv_bipush (v := 16) hx hb dX11_set_5 (by decide) ?_
  refine lv_icmp_lt (tgt := 20) hx hb dX11_set_7 (by decide) (fun _ => ?_) (fun c => absurd (iv_lt ix0 (by decide : iv 16 16 16) (by decide)) c)
  refine lv_aload_n hx hb dX11_set_20 rfl (lv_at hl 0 rfl) ?_
  refine va_get (D := (dC, dI)) (ci := 11) (v := .ref h3) (C := RX11) (T := TX11) (N := 7) hx hb hG inGX11 hown hK hP 0 rfl rfl 2 (by decide) (hG _ wd_397) (fun _ h9 => h9) rfl dX11_set_21 ?_
  refine lv_iload_n hx hb dX11_set_24 rfl (lv_at hl 1 rfl) ?_
  refine lv_iload_n hx hb dX11_set_25 rfl (lv_at hl 2 rfl) ?_
  obtain ⟨hPc, hDc, hFc⟩ := nv_sub3 (wc := [(h3, .inr (2, [.ref h6, .ref h7, .ref h2, .int x4, .int x5, .int x6, .int x7, .int x8])), (h6, .inl (y0, 16, .inl f0))]) hP hD hS hA [1, 2] (by decide) rfl
  have hKc := hK.sub (tys' := [(y0, .int)]) [0] rfl
  refine va_callv (va_runV (As := [.int x0, .int x1]) (rest := []) ⟨hx, hb, hml, hown, hG⟩ (cX2_writeRegister_1 l dC dI h3 h6 h7 h2 y0 s.heap.size x0 x1 x4 x5 x6 x7 x8 f0 ix8) (cwV 2 hG (gV wd_1149 wd_826 wd_827 wd_6 wd_828) rfl rfl rfl (by decide +kernel) ⟨Nat.le_of_ble_eq_true rfl, Nat.le_of_ble_eq_true rfl⟩) ⟨fun a U g mk q => by obtain ⟨q0, q1, qP, qK, qD⟩ := q; exact ⟨q0, q1, qP, va_K.moved (u := U) (U := U.calling g mk a) (Vm.Alike.refl U.vm) qK, qD⟩, va_recv hKc hPc (ci := 2) (q0 := 0) rfl rfl, fun U hU hW => ⟨rfl, by rw [hU], by rw [hU]; exact hPc, va_K.moved hW.alike hKc, hDc.weaken (fun _ _ _ _ => trivial)⟩⟩ rfl rfl hl.1 rfl (lv_room (Nat.le_of_ble_eq_true rfl)) dX11_set_26 ⟨by decide, by decide⟩) hS (fun q _ h => hFc q h) hFc (fun u2 t H1 locs ht hvm hw hB hz1 hk1 hS => ?_)
  obtain ⟨u2_0, rfl⟩ : ∃ z, z = u2 := ⟨_, rfl⟩
  obtain ⟨hP1, hK1, hD1⟩ := hB
  rw [ht] at hP1
  have hK1 := va_K.moved hvm.symm hK1
  obtain ⟨hP, hD⟩ := nv_join (wf := [(h0, .inr (11, [.ref h1, .ref h2, .ref h3, .ref h4, .ref h5, .int x2, .int x3])), (h3, .inr (2, [.ref h6, .ref h7, .ref h2, .int x4, .int x5, .int x6, .int x7, .int x8])), (h6, .inl (y0, 16, .inl u2_0))]) hP hD [1, 2] [0] rfl rfl (by decide) (by decide) hk1 hFc hP1 hD1 rfl
  have hK := (hK.sub (tys' := []) [] rfl).app hK1
  generalize H1 = H at hP hS ⊢
  have hK : va_K (dC, dI) vwCl [(y0, .int)] s := hK
  rw [hQ]
  obtain ⟨hP9, hD9⟩ := nv_sub2 (wc := [(h0, .inr (11, [.ref h1, .ref h2, .ref h3, .ref h4, .ref h5, .int x2, .int x3])), (h3, .inr (2, [.ref h6, .ref h7, .ref h2, .int x4, .int x5, .int x6, .int x7, .int x8])), (h6, .inl (y0, 16, .inl u2_0))]) hP hD [0, 1, 2] (by decide) rfl
  have hK9 := hK.sub (tys' := [(y0, .int)]) [0] rfl
  exact W.vret hx hb hr (fun t ht hW => ⟨⟨u2_0, rfl, trivial, by rw [ht]; exact hP9, va_K.moved hW.alike hK9, hD9⟩, hS.F ht⟩) hS.2.2 dX11_set_29
set_option maxHeartbeats 100000000 in
set_option maxRecDepth 100000 in
theorem cL_set_3 (l : Launch) (dC : Nat → ClassId) (dI : Nat → Nat → Nat) (h0 h1 h2 h3 h4 h5 h6 h7 : Nat) (y0 : ClassId) (sz : Nat) (x0 x1 x2 x3 x4 x5 x6 x7 x8 : Int32) (f0 : Nat → Int32) (ix0 : iv x0 0 15) (ix2 : iv x2 0 2600) (ix8 : iv x8 0 1) : Met l yL_set (Cond.codeWith yL_set cL_set 4 (some .int) [(0, 6, 9, 19)] :: lw_G) ({ frames := 2, cells := 0, slots := 0, locals := 44 }) (va_Pc [.ref h0, .int x0, .int x1] (fun U => U.heap.size = sz ∧ va_P (dC, dI) vwCl [(h0, .inr (11, [.ref h1, .ref h2, .ref h3, .ref h4, .ref h5, .int x2, .int x3])), (h3, .inr (2, [.ref h6, .ref h7, .ref h2, .int x4, .int x5, .int x6, .int x7, .int x8])), (h6, .inl (y0, 16, .inl f0))] U.heap ∧ va_K (dC, dI) vwCl [(y0, .int)] U ∧ va_D (fun _ => True) [(h0, .inr (11, [.ref h1, .ref h2, .ref h3, .ref h4, .ref h5, .int x2, .int x3])), (h3, .inr (2, [.ref h6, .ref h7, .ref h2, .int x4, .int x5, .int x6, .int x7, .int x8])), (h6, .inl (y0, 16, .inl f0))])) (va_Qi (fun (r : Int32) (u : (Nat → Int32)) => r = 0 ∧ True) (fun (u : (Nat → Int32)) (t : State) => va_P (dC, dI) vwCl [(h0, .inr (11, [.ref h1, .ref h2, .ref h3, .ref h4, .ref h5, .int x2, .int x3])), (h3, .inr (2, [.ref h6, .ref h7, .ref h2, .int x4, .int x5, .int x6, .int x7, .int x8])), (h6, .inl (y0, 16, .inl u))] t.heap ∧ va_K (dC, dI) vwCl [(y0, .int)] t ∧ va_D (va_A [(h0, .inr (11, [.ref h1, .ref h2, .ref h3, .ref h4, .ref h5, .int x2, .int x3])), (h3, .inr (2, [.ref h6, .ref h7, .ref h2, .int x4, .int x5, .int x6, .int x7, .int x8])), (h6, .inl (y0, 16, .inl f0))] sz) [(h0, .inr (11, [.ref h1, .ref h2, .ref h3, .ref h4, .ref h5, .int x2, .int x3])), (h3, .inr (2, [.ref h6, .ref h7, .ref h2, .int x4, .int x5, .int x6, .int x7, .int x8])), (h6, .inl (y0, 16, .inl u))]) (va_A [(h0, .inr (11, [.ref h1, .ref h2, .ref h3, .ref h4, .ref h5, .int x2, .int x3])), (h3, .inr (2, [.ref h6, .ref h7, .ref h2, .int x4, .int x5, .int x6, .int x7, .int x8])), (h6, .inl (y0, 16, .inl f0))] sz)) 0 0 (va_A [(h0, .inr (11, [.ref h1, .ref h2, .ref h3, .ref h4, .ref h5, .int x2, .int x3])), (h3, .inr (2, [.ref h6, .ref h7, .ref h2, .int x4, .int x5, .int x6, .int x7, .int x8])), (h6, .inl (y0, 16, .inl f0))] sz) := by
  refine va_MetW (cc := cL_set) (maxL := 4) (ret := (some .int)) (by decide) rfl ?_
  intro p e s m args below meth c s₁ B hml hv
  obtain ⟨rfl, hsz, hP, hK, hD0⟩ := hv
  have hx := B.exec
  have hb := B.bytes
  have hr := B.returns
  have hts0 := atoms_spec (ws := Cond.codeWith yL_set cL_set 4 (some .int) [(0, 6, 9, 19)] :: lw_G) B.pre
  have htab := vx_table (x := x) B (hts0 _ List.mem_cons_self)
  have hG : ∀ w ∈ lw_G, w.before _ s = true := fun w h => hts0 w (List.mem_cons_of_mem _ h)
  have hown : s.vm.findClass RL = some m.cls := findClass_of_methodNamed B.named
  have hlocks := B.notSynchronized
  subst hsz
  have hD := hD0.self (sz := s.heap.size)
  generalize hAe : va_A [(h0, .inr (11, [.ref h1, .ref h2, .ref h3, .ref h4, .ref h5, .int x2, .int x3])), (h3, .inr (2, [.ref h6, .ref h7, .ref h2, .int x4, .int x5, .int x6, .int x7, .int x8])), (h6, .inl (y0, 16, .inl f0))] s.heap.size = A at hD ⊢
  have hA : ∀ q : Nat, s.heap.size ≤ q → A q := fun q h => by rw [← hAe]; exact Or.inr h
  have hS : va_S A s.heap s.heap [] := va_S.rf
  have hP : va_P (dC, dI) vwCl [(h0, .inr (11, [.ref h1, .ref h2, .ref h3, .ref h4, .ref h5, .int x2, .int x3])), (h3, .inr (2, [.ref h6, .ref h7, .ref h2, .int x4, .int x5, .int x6, .int x7, .int x8])), (h6, .inl (y0, 16, .inl f0))] s.heap := hP
  have hl := lv_entry ([.ref h0, .int x0, .int x1]) (n := 4) (Nat.le_of_ble_eq_true rfl)
  rw [lg_entry_eq]
  generalize (lg_sl ([.ref h0, .int x0, .int x1]) ++ List.replicate (4 - (lg_sl ([.ref h0, .int x0, .int x1])).length) Slot.unset).toArray = ls at hl ⊢
  have hl : lv_has ls 4 [(0, .ref h0), (1, .int x0), (2, .int x1)] := hl
  generalize ([.ref h0, .int x0, .int x1] : List Value).toArray = ar at hG ⊢
  refine wq (fun Q hQ => ?_)
  refine lv_aload_n hx hb dL_set_0 rfl (lv_at hl 0 rfl) ?_
  refine lv_iload_n hx hb dL_set_1 rfl (lv_at hl 1 rfl) ?_
  refine lv_iload_n hx hb dL_set_2 rfl (lv_at hl 2 rfl) ?_
  obtain ⟨hPc, hDc, hFc⟩ := nv_sub3 (wc := [(h0, .inr (11, [.ref h1, .ref h2, .ref h3, .ref h4, .ref h5, .int x2, .int x3])), (h3, .inr (2, [.ref h6, .ref h7, .ref h2, .int x4, .int x5, .int x6, .int x7, .int x8])), (h6, .inl (y0, 16, .inl f0))]) hP hD hS hA [0, 1, 2] (by decide) rfl
  have hKc := hK.sub (tys' := [(y0, .int)]) [0] rfl
  refine va_callv (va_runV (As := [.int x0, .int x1]) (rest := []) ⟨hx, hb, hml, hown, hG⟩ (cX11_set_3 l dC dI h0 h1 h2 h3 h4 h5 h6 h7 y0 s.heap.size x0 x1 x2 x3 x4 x5 x6 x7 x8 f0 ix0 ix2 ix8) (cwV 2 hG (gV wd_1145 wd_1146 wd_1147 wd_1 wd_1148) rfl rfl rfl (by decide +kernel) ⟨Nat.le_of_ble_eq_true rfl, Nat.le_of_ble_eq_true rfl⟩) ⟨fun a U g mk q => by obtain ⟨q0, q1, qP, qK, qD⟩ := q; exact ⟨q0, q1, qP, va_K.moved (u := U) (U := U.calling g mk a) (Vm.Alike.refl U.vm) qK, qD⟩, va_recv hKc hPc (ci := 11) (q0 := 0) rfl rfl, fun U hU hW => ⟨rfl, by rw [hU], by rw [hU]; exact hPc, va_K.moved hW.alike hKc, hDc.weaken (fun _ _ _ _ => trivial)⟩⟩ rfl rfl hl.1 rfl (lv_room (Nat.le_of_ble_eq_true rfl)) dL_set_3 ⟨by decide, by decide⟩) hS (fun q _ h => hFc q h) hFc (fun u2 t H1 locs ht hvm hw hB hz1 hk1 hS => ?_)
  obtain ⟨u2_0, rfl⟩ : ∃ z, z = u2 := ⟨_, rfl⟩
  obtain ⟨hP1, hK1, hD1⟩ := hB
  rw [ht] at hP1
  have hK1 := va_K.moved hvm.symm hK1
  obtain ⟨hP, hD⟩ := nv_join (wf := [(h0, .inr (11, [.ref h1, .ref h2, .ref h3, .ref h4, .ref h5, .int x2, .int x3])), (h3, .inr (2, [.ref h6, .ref h7, .ref h2, .int x4, .int x5, .int x6, .int x7, .int x8])), (h6, .inl (y0, 16, .inl u2_0))]) hP hD [0, 1, 2] [] rfl rfl (by decide) (by decide) hk1 hFc hP1 hD1 rfl
  have hK := (hK.sub (tys' := []) [] rfl).app hK1
  generalize H1 = H at hP hS ⊢
  have hK : va_K (dC, dI) vwCl [(y0, .int)] s := hK
  refine lv_goto (tgt := 12) hx hb dL_set_6 (by decide) ?_
  refine lv_iconst (v := 0) hx hb dL_set_12 (by decide) ?_
  rw [hQ]
  obtain ⟨hP9, hD9⟩ := nv_sub2 (wc := [(h0, .inr (11, [.ref h1, .ref h2, .ref h3, .ref h4, .ref h5, .int x2, .int x3])), (h3, .inr (2, [.ref h6, .ref h7, .ref h2, .int x4, .int x5, .int x6, .int x7, .int x8])), (h6, .inl (y0, 16, .inl u2_0))]) hP hD [0, 1, 2] (by decide) rfl
  have hK9 := hK.sub (tys' := [(y0, .int)]) [0] rfl
  exact W.iret (v := 0) hx hb hr (fun t ht hW => ⟨⟨0, u2_0, rfl, ⟨rfl, trivial⟩, by rw [ht]; exact hP9, va_K.moved hW.alike hK9, hD9⟩, hS.F ht⟩) hS.2.2 dL_set_13
set_option maxHeartbeats 100000000 in
set_option maxRecDepth 100000 in
theorem cX11_peek_1 (l : Launch) (hst : l.stackTraces = false) (dC : Nat → ClassId) (dI : Nat → Nat → Nat) (adK adV : Nat → Nat) (h0 h1 h2 h3 h4 h5 : Nat) (sz : Nat) (x0 x1 x2 : Int32) (ix0 : iv x0 (-2147483648) (-1)) (ix1 : iv x1 0 2600) : vx_Met l yX11_peek (Cond.code yX11_peek cX11_peek 2 (some .int) :: lw_G) ({ frames := 6, cells := 1, slots := 6, locals := 82 }) (va_Pc [.ref h0, .int x0] (fun U => U.heap.size = sz ∧ va_P (dC, dI) vwCl [(h0, .inr (11, [.ref h1, .ref h2, .ref h3, .ref h4, .ref h5, .int x1, .int x2]))] U.heap ∧ va_K (dC, dI) vwCl [] U ∧ va_D (fun _ => True) [(h0, .inr (11, [.ref h1, .ref h2, .ref h3, .ref h4, .ref h5, .int x1, .int x2]))] ∧ ev adK adV (va_A [(h0, .inr (11, [.ref h1, .ref h2, .ref h3, .ref h4, .ref h5, .int x1, .int x2]))] sz) U U.heap)) (va_Qi (fun (_ : Int32) (_ : Unit) => False) (fun _ _ => True) (va_A [(h0, .inr (11, [.ref h1, .ref h2, .ref h3, .ref h4, .ref h5, .int x1, .int x2]))] sz)) (vx_X (fun (_ : Unit) => True) (fun (E : String) (_ : Unit) (t : State) => E = "java/lang/IndexOutOfBoundsException" ∧ va_P (dC, dI) vwCl [(h0, .inr (11, [.ref h1, .ref h2, .ref h3, .ref h4, .ref h5, .int x1, .int x2]))] t.heap ∧ va_K (dC, dI) vwCl [] t ∧ va_D (va_A [(h0, .inr (11, [.ref h1, .ref h2, .ref h3, .ref h4, .ref h5, .int x1, .int x2]))] sz) [(h0, .inr (11, [.ref h1, .ref h2, .ref h3, .ref h4, .ref h5, .int x1, .int x2]))]) (va_A [(h0, .inr (11, [.ref h1, .ref h2, .ref h3, .ref h4, .ref h5, .int x1, .int x2]))] sz)) 1 6 (va_A [(h0, .inr (11, [.ref h1, .ref h2, .ref h3, .ref h4, .ref h5, .int x1, .int x2]))] sz) := by
  refine vx_ofW (cc := cX11_peek) (maxL := 2) (ret := (some .int)) (by decide) rfl ?_
  intro p e s m args below meth c s₁ B hml htab hv
  obtain ⟨rfl, hsz, hP, hK, hD0, hE⟩ := hv
  have hx := B.exec
  have hb := B.bytes
  have hr := B.returns
  have hts0 := atoms_spec (ws := Cond.code yX11_peek cX11_peek 2 (some .int) :: lw_G) B.pre
  have hG : ∀ w ∈ lw_G, w.before _ s = true := fun w h => hts0 w (List.mem_cons_of_mem _ h)
  have hown : s.vm.findClass RX11 = some m.cls := findClass_of_methodNamed B.named
  have hlocks := B.notSynchronized
  subst hsz
  have hD := hD0.self (sz := s.heap.size)
  generalize hAe : va_A [(h0, .inr (11, [.ref h1, .ref h2, .ref h3, .ref h4, .ref h5, .int x1, .int x2]))] s.heap.size = A at hD hE ⊢
  have hA : ∀ q : Nat, s.heap.size ≤ q → A q := fun q h => by rw [← hAe]; exact Or.inr h
  have hS : va_S A s.heap s.heap [] := va_S.rf
  have hP : va_P (dC, dI) vwCl [(h0, .inr (11, [.ref h1, .ref h2, .ref h3, .ref h4, .ref h5, .int x1, .int x2]))] s.heap := hP
  have hl := lv_entry ([.ref h0, .int x0]) (n := 2) (Nat.le_of_ble_eq_true rfl)
  rw [lg_entry_eq]
  generalize (lg_sl ([.ref h0, .int x0]) ++ List.replicate (2 - (lg_sl ([.ref h0, .int x0])).length) Slot.unset).toArray = ls at hl ⊢
  have hl : lv_has ls 2 [(0, .ref h0), (1, .int x0)] := hl
  refine lv_iload_n hx hb dX11_peek_0 rfl (lv_at hl 1 rfl) ?_
  refine lv_if_lt (tgt := 10) hx hb dX11_peek_1 (by decide) (fun _ => ?_) (fun c => absurd (iv_lt ix0 (by decide : iv 0 0 0) (by decide)) c)
  obtain ⟨hP9, hD9⟩ := nv_sub2 (wc := [(h0, .inr (11, [.ref h1, .ref h2, .ref h3, .ref h4, .ref h5, .int x1, .int x2]))]) hP hD [0] (by decide) rfl
  have hK9 := hK.sub (tys' := []) [] rfl
  refine vx_throwS (own := RX11) (cls := "java/lang/IndexOutOfBoundsException") (text := evT4) (names := ["java/lang/RuntimeException", "java/lang/Exception"]) hx hb hst hown (by decide) (by decide) (hG _ wd_1126) (hG _ wd_24) (evR4 hE) (evA1 hE hG) evG1_106 hE.2.2.2.1 hE.2.2.2.2.1 hS (by rw [hml]; exact hl.1) dX11_peek_10 dX11_peek_13 dX11_peek_14 dX11_peek_16 dX11_peek_19 (fun x hx9 => (htab x hx9).elim) (by decide) (by decide) (by decide) (by decide) hlocks (fun t hvm9 hz9 hk9 => ⟨(), trivial, ⟨rfl, hP9.kept (fun k q hk => hk9 q.1 (vx_lt hP9 hk)), va_K.moved hvm9 hK9, hD9⟩, Nat.le_trans hS.1 hz9, fun q hq hA9 => (hk9 q (Nat.lt_of_lt_of_le hq hS.1)).trans (hS.2.1 q hq hA9)⟩) hS.2.2 (by decide) (by decide)
set_option maxHeartbeats 100000000 in
set_option maxRecDepth 100000 in
theorem cL_peek_1 (l : Launch) (hst : l.stackTraces = false) (dC : Nat → ClassId) (dI : Nat → Nat → Nat) (adK adV : Nat → Nat) (h0 h1 h2 h3 h4 h5 h6 : Nat) (sz : Nat) (x0 x1 x2 : Int32) (ix0 : iv x0 (-2147483648) (-1)) (ix1 : iv x1 0 2600) : Met l yL_peek (Cond.codeWith yL_peek cL_peek 4 (some .int) [(0, 9, 12, 19)] :: lw_G) ({ frames := 7, cells := 1, slots := 6, locals := 103 }) (va_Pc [.ref h0, .int x0, .ref h1] (fun U => U.heap.size = sz ∧ va_P (dC, dI) vwCl [(h0, .inr (11, [.ref h2, .ref h3, .ref h4, .ref h5, .ref h6, .int x1, .int x2]))] U.heap ∧ va_K (dC, dI) vwCl [] U ∧ va_D (fun _ => True) [(h0, .inr (11, [.ref h2, .ref h3, .ref h4, .ref h5, .ref h6, .int x1, .int x2]))] ∧ ev adK adV (va_A [(h0, .inr (11, [.ref h2, .ref h3, .ref h4, .ref h5, .ref h6, .int x1, .int x2]))] sz) U U.heap)) (va_Qi (fun (r : Int32) (u : Unit) => r = 1 ∧ True) (fun (u : Unit) (t : State) => va_P (dC, dI) vwCl [(h0, .inr (11, [.ref h2, .ref h3, .ref h4, .ref h5, .ref h6, .int x1, .int x2]))] t.heap ∧ va_K (dC, dI) vwCl [] t ∧ va_D (va_A [(h0, .inr (11, [.ref h2, .ref h3, .ref h4, .ref h5, .ref h6, .int x1, .int x2]))] sz) [(h0, .inr (11, [.ref h2, .ref h3, .ref h4, .ref h5, .ref h6, .int x1, .int x2]))]) (va_A [(h0, .inr (11, [.ref h2, .ref h3, .ref h4, .ref h5, .ref h6, .int x1, .int x2]))] sz)) 1 6 (va_A [(h0, .inr (11, [.ref h2, .ref h3, .ref h4, .ref h5, .ref h6, .int x1, .int x2]))] sz) := by
  refine va_MetW (cc := cL_peek) (maxL := 4) (ret := (some .int)) (by decide) rfl ?_
  intro p e s m args below meth c s₁ B hml hv
  obtain ⟨rfl, hsz, hP, hK, hD0, hE⟩ := hv
  have hx := B.exec
  have hb := B.bytes
  have hr := B.returns
  have hts0 := atoms_spec (ws := Cond.codeWith yL_peek cL_peek 4 (some .int) [(0, 9, 12, 19)] :: lw_G) B.pre
  have htab := vx_table (x := x) B (hts0 _ List.mem_cons_self)
  have hG : ∀ w ∈ lw_G, w.before _ s = true := fun w h => hts0 w (List.mem_cons_of_mem _ h)
  have hown : s.vm.findClass RL = some m.cls := findClass_of_methodNamed B.named
  have hlocks := B.notSynchronized
  subst hsz
  have hD := hD0.self (sz := s.heap.size)
  generalize hAe : va_A [(h0, .inr (11, [.ref h2, .ref h3, .ref h4, .ref h5, .ref h6, .int x1, .int x2]))] s.heap.size = A at hD hE ⊢
  have hA : ∀ q : Nat, s.heap.size ≤ q → A q := fun q h => by rw [← hAe]; exact Or.inr h
  have hS : va_S A s.heap s.heap [] := va_S.rf
  have hP : va_P (dC, dI) vwCl [(h0, .inr (11, [.ref h2, .ref h3, .ref h4, .ref h5, .ref h6, .int x1, .int x2]))] s.heap := hP
  have hl := lv_entry ([.ref h0, .int x0, .ref h1]) (n := 4) (Nat.le_of_ble_eq_true rfl)
  rw [lg_entry_eq]
  generalize (lg_sl ([.ref h0, .int x0, .ref h1]) ++ List.replicate (4 - (lg_sl ([.ref h0, .int x0, .ref h1])).length) Slot.unset).toArray = ls at hl ⊢
  have hl : lv_has ls 4 [(0, .ref h0), (1, .int x0), (2, .ref h1)] := hl
  generalize ([.ref h0, .int x0, .ref h1] : List Value).toArray = ar at hG ⊢
  refine wq (fun Q hQ => ?_)
  refine lv_aload_n hx hb dL_peek_0 rfl (lv_at hl 2 rfl) ?_
  refine lv_iconst (v := 0) hx hb dL_peek_1 (by decide) ?_
  refine lv_aload_n hx hb dL_peek_2 rfl (lv_at hl 0 rfl) ?_
  refine lv_iload_n hx hb dL_peek_3 rfl (lv_at hl 1 rfl) ?_
  obtain ⟨hPc, hDc, hFc⟩ := nv_sub3 (wc := [(h0, .inr (11, [.ref h2, .ref h3, .ref h4, .ref h5, .ref h6, .int x1, .int x2]))]) hP hD hS hA [0] (by decide) rfl
  have hKc := hK.sub (tys' := []) [] rfl
  refine vx_calli (vx_runV (As := [.int x0]) (rest := [.int 0, .ref h1]) ⟨hx, hb, hml, hown, hG⟩ (cX11_peek_1 l hst dC dI adK adV h0 h2 h3 h4 h5 h6 s.heap.size x0 x1 x2 ix0 ix1) (cwV 1 hG (gV wd_1153 wd_1154 wd_1155 wd_1 wd_1156) rfl rfl rfl (by decide +kernel) ⟨Nat.le_of_ble_eq_true rfl, Nat.le_of_ble_eq_true rfl⟩) ⟨fun a U g mk q => by obtain ⟨q0, q1, qP, qK, qD, qE⟩ := q; exact ⟨q0, q1, qP, va_K.moved (u := U) (U := U.calling g mk a) (Vm.Alike.refl U.vm) qK, qD, qE.same rfl⟩, va_recv hKc hPc (ci := 11) (q0 := 0) rfl rfl, fun U hU hW => ⟨rfl, by rw [hU], by rw [hU]; exact hPc, va_K.moved hW.alike hKc, hDc.weaken (fun _ _ _ _ => trivial), by rw [hU]; exact ((hE.kept hS.2.1).narrow hFc).warm hW⟩⟩ rfl rfl hl.1 rfl (lv_room (Nat.le_of_ble_eq_true rfl)) dL_peek_4 ⟨by decide, by decide⟩) hS (fun q _ h => hFc q h) hFc (fun q _ h => hFc q h) (fun E9 ce q1 u9 t H1 locs ht hvm hpx hB hz1 hk1 hS hce hcv hcl => ?_) (fun r u t H1 locs ht hvm hw hB hz1 hk1 hS => hw.elim)
  obtain ⟨rfl, hP1, hK1, hD1⟩ := hB
  rw [ht] at hP1
  have hK1 := va_K.moved hvm.symm hK1
  obtain ⟨hP, hD⟩ := nv_join (wf := [(h0, .inr (11, [.ref h2, .ref h3, .ref h4, .ref h5, .ref h6, .int x1, .int x2]))]) hP hD [0] [] rfl rfl (by decide) (by decide) hk1 hFc hP1 hD1 rfl
  have hK := (hK.sub (tys' := []) [] rfl).app hK1
  generalize H1 = H at hP hS hce ⊢
  have hK : va_K (dC, dI) vwCl [] s := hK
  refine vx_widen (k := 1) (n := 6) (by decide) (by decide) ?_
  refine vx_catch (name := "java/lang/IndexOutOfBoundsException") hown [] { startPc := 0, endPc := 9, handlerPc := 12, catchType := 19 } [] (by rw [htab]; rfl) (fun z hz => nomatch hz) (by decide) (by decide) (hG _ wd_1121) (evC1 hE) hce hcv hcl ?_
  refine lv_astore_n (lv' := [(3, .ref q1), (0, .ref h0), (1, .int x0), (2, .ref h1)]) hx hb dL_peek_12 rfl hl (by decide) rfl (fun ls hl => ?_)
  refine lv_iconst (v := 1) hx hb dL_peek_13 (by decide) ?_
  rw [hQ]
  obtain ⟨hP9, hD9⟩ := nv_sub2 (wc := [(h0, .inr (11, [.ref h2, .ref h3, .ref h4, .ref h5, .ref h6, .int x1, .int x2]))]) hP hD [0] (by decide) rfl
  have hK9 := hK.sub (tys' := []) [] rfl
  refine W.widen (k := 1) (n := 6) (by decide) (by decide) ?_
  exact W.iret (v := 1) hx hb hr (fun t ht hW => ⟨⟨1, (), rfl, ⟨rfl, trivial⟩, by rw [ht]; exact hP9, va_K.moved hW.alike hK9, hD9⟩, hS.F ht⟩) hS.2.2 dL_peek_14
set_option maxHeartbeats 100000000 in
set_option maxRecDepth 100000 in
theorem cX12_peek_1 (l : Launch) (dC : Nat → ClassId) (dI : Nat → Nat → Nat) (h0 h1 h2 h3 h4 h5 h6 h7 h8 h9 h10 h11 h12 h13 h14 h15 h16 h17 : Nat) (y0 y1 y2 : ClassId) (sz : Nat) (x0 x1 x2 x3 x4 x5 x6 x7 x8 x9 x10 x11 x12 x13 x14 x15 x16 x17 x18 x19 x20 x21 x22 x23 x24 x25 x26 x27 x28 x29 x30 x31 x32 x33 x34 x35 x36 x37 x38 x39 x40 x41 x42 x43 x44 x45 x46 x47 x48 x49 x50 x51 x52 x53 x54 : Int32) (z0 : Int64) (f0 f1 f2 : Nat → Int32) (ix16 : iv x16 0 1) (ix17 : iv x17 0 40) (ix22 : iv x22 0 65535) (ix23 : iv x23 0 1) (ix24 : iv x24 0 1) (ix25 : iv x25 0 2600) (ix26 : iv x26 0 2600) (ix27 : iv x27 0 2500) (ix28 : iv x28 0 2500) (ix32 : iv x32 0 1048575) (ix33 : iv x33 0 60) (ix34 : iv x34 0 60) (ix35 : iv x35 0 1) (ix36 : iv x36 0 1) (ix37 : iv x37 0 65535) (ix42 : iv x42 0 5200) (ix43 : iv x43 0 70800) (ix47 : iv x47 0 1) (ix48 : iv x48 0 1) (ix50 : iv x50 0 100) (ix54 : iv x54 0 1) (if2 : ∀ j, iv (f2 j) (-128) 127) : Met l yX12_peek (Cond.code yX12_peek cX12_peek 2 (some .int) :: lw_G) ({ frames := 3, cells := 0, slots := 0, locals := 62 }) (va_Pc [.ref h0, .int x0] (fun U => U.heap.size = sz ∧ va_P (dC, dI) vwCl [(h0, .inr (12, .int x1 :: .ref h1 :: .ref h2 :: .int x2 :: .int x3 :: .int x4 :: .int x5 :: .int x6 :: .int x7 :: .int x8 :: .int x9 :: .int x10 :: [.int x11, .int x12, .int x13, .int x14, .int x15, .int x16, .ref h3, .ref h4, .ref h5, .ref h6, .int x17, .int x18, .int x19, .int x20, .int x21, .int x22, .int x23, .int x24, .ref h7, .int x25, .int x26, .int x27, .int x28, .ref h8, .ref h9, .int x29, .int x30, .long z0, .int x31, .int x32, .ref h10, .ref h11, .ref h12, .ref h13, .ref h14, .int x33, .int x34, .int x35, .int x36, .int x37, .int x38, .int x39, .int x40, .int x41, .ref h15, .ref h16, .int x42, .int x43, .int x44, .int x45, .int x46, .int x47, .int x48, .int x49, .ref h17, .int x50, .int x51, .int x52, .int x53, .int x54])), (h3, .inl (y0, 3, .inl f0)), (h4, .inl (y1, 3, .inl f1)), (h1, .inl (y2, 65536, .inl f2))] U.heap ∧ va_K (dC, dI) vwCl [(y0, .int), (y1, .int), (y2, .byte)] U ∧ va_D (fun _ => True) [(h0, .inr (12, .int x1 :: .ref h1 :: .ref h2 :: .int x2 :: .int x3 :: .int x4 :: .int x5 :: .int x6 :: .int x7 :: .int x8 :: .int x9 :: .int x10 :: [.int x11, .int x12, .int x13, .int x14, .int x15, .int x16, .ref h3, .ref h4, .ref h5, .ref h6, .int x17, .int x18, .int x19, .int x20, .int x21, .int x22, .int x23, .int x24, .ref h7, .int x25, .int x26, .int x27, .int x28, .ref h8, .ref h9, .int x29, .int x30, .long z0, .int x31, .int x32, .ref h10, .ref h11, .ref h12, .ref h13, .ref h14, .int x33, .int x34, .int x35, .int x36, .int x37, .int x38, .int x39, .int x40, .int x41, .ref h15, .ref h16, .int x42, .int x43, .int x44, .int x45, .int x46, .int x47, .int x48, .int x49, .ref h17, .int x50, .int x51, .int x52, .int x53, .int x54])), (h3, .inl (y0, 3, .inl f0)), (h4, .inl (y1, 3, .inl f1)), (h1, .inl (y2, 65536, .inl f2))])) (va_Qi (fun (r : Int32) (u : Int32) => iv u 0 1 ∧ True) (fun (u : Int32) (t : State) => va_P (dC, dI) vwCl [(h0, .inr (12, .int u :: .ref h1 :: .ref h2 :: .int x2 :: .int x3 :: .int x4 :: .int x5 :: .int x6 :: .int x7 :: .int x8 :: .int x9 :: .int x10 :: [.int x11, .int x12, .int x13, .int x14, .int x15, .int x16, .ref h3, .ref h4, .ref h5, .ref h6, .int x17, .int x18, .int x19, .int x20, .int x21, .int x22, .int x23, .int x24, .ref h7, .int x25, .int x26, .int x27, .int x28, .ref h8, .ref h9, .int x29, .int x30, .long z0, .int x31, .int x32, .ref h10, .ref h11, .ref h12, .ref h13, .ref h14, .int x33, .int x34, .int x35, .int x36, .int x37, .int x38, .int x39, .int x40, .int x41, .ref h15, .ref h16, .int x42, .int x43, .int x44, .int x45, .int x46, .int x47, .int x48, .int x49, .ref h17, .int x50, .int x51, .int x52, .int x53, .int x54])), (h3, .inl (y0, 3, .inl f0)), (h4, .inl (y1, 3, .inl f1)), (h1, .inl (y2, 65536, .inl f2))] t.heap ∧ va_K (dC, dI) vwCl [(y0, .int), (y1, .int), (y2, .byte)] t ∧ va_D (va_A [(h0, .inr (12, .int x1 :: .ref h1 :: .ref h2 :: .int x2 :: .int x3 :: .int x4 :: .int x5 :: .int x6 :: .int x7 :: .int x8 :: .int x9 :: .int x10 :: [.int x11, .int x12, .int x13, .int x14, .int x15, .int x16, .ref h3, .ref h4, .ref h5, .ref h6, .int x17, .int x18, .int x19, .int x20, .int x21, .int x22, .int x23, .int x24, .ref h7, .int x25, .int x26, .int x27, .int x28, .ref h8, .ref h9, .int x29, .int x30, .long z0, .int x31, .int x32, .ref h10, .ref h11, .ref h12, .ref h13, .ref h14, .int x33, .int x34, .int x35, .int x36, .int x37, .int x38, .int x39, .int x40, .int x41, .ref h15, .ref h16, .int x42, .int x43, .int x44, .int x45, .int x46, .int x47, .int x48, .int x49, .ref h17, .int x50, .int x51, .int x52, .int x53, .int x54])), (h3, .inl (y0, 3, .inl f0)), (h4, .inl (y1, 3, .inl f1)), (h1, .inl (y2, 65536, .inl f2))] sz) [(h0, .inr (12, .int u :: .ref h1 :: .ref h2 :: .int x2 :: .int x3 :: .int x4 :: .int x5 :: .int x6 :: .int x7 :: .int x8 :: .int x9 :: .int x10 :: [.int x11, .int x12, .int x13, .int x14, .int x15, .int x16, .ref h3, .ref h4, .ref h5, .ref h6, .int x17, .int x18, .int x19, .int x20, .int x21, .int x22, .int x23, .int x24, .ref h7, .int x25, .int x26, .int x27, .int x28, .ref h8, .ref h9, .int x29, .int x30, .long z0, .int x31, .int x32, .ref h10, .ref h11, .ref h12, .ref h13, .ref h14, .int x33, .int x34, .int x35, .int x36, .int x37, .int x38, .int x39, .int x40, .int x41, .ref h15, .ref h16, .int x42, .int x43, .int x44, .int x45, .int x46, .int x47, .int x48, .int x49, .ref h17, .int x50, .int x51, .int x52, .int x53, .int x54])), (h3, .inl (y0, 3, .inl f0)), (h4, .inl (y1, 3, .inl f1)), (h1, .inl (y2, 65536, .inl f2))]) (va_A [(h0, .inr (12, .int x1 :: .ref h1 :: .ref h2 :: .int x2 :: .int x3 :: .int x4 :: .int x5 :: .int x6 :: .int x7 :: .int x8 :: .int x9 :: .int x10 :: [.int x11, .int x12, .int x13, .int x14, .int x15, .int x16, .ref h3, .ref h4, .ref h5, .ref h6, .int x17, .int x18, .int x19, .int x20, .int x21, .int x22, .int x23, .int x24, .ref h7, .int x25, .int x26, .int x27, .int x28, .ref h8, .ref h9, .int x29, .int x30, .long z0, .int x31, .int x32, .ref h10, .ref h11, .ref h12, .ref h13, .ref h14, .int x33, .int x34, .int x35, .int x36, .int x37, .int x38, .int x39, .int x40, .int x41, .ref h15, .ref h16, .int x42, .int x43, .int x44, .int x45, .int x46, .int x47, .int x48, .int x49, .ref h17, .int x50, .int x51, .int x52, .int x53, .int x54])), (h3, .inl (y0, 3, .inl f0)), (h4, .inl (y1, 3, .inl f1)), (h1, .inl (y2, 65536, .inl f2))] sz)) 0 0 (va_A [(h0, .inr (12, .int x1 :: .ref h1 :: .ref h2 :: .int x2 :: .int x3 :: .int x4 :: .int x5 :: .int x6 :: .int x7 :: .int x8 :: .int x9 :: .int x10 :: [.int x11, .int x12, .int x13, .int x14, .int x15, .int x16, .ref h3, .ref h4, .ref h5, .ref h6, .int x17, .int x18, .int x19, .int x20, .int x21, .int x22, .int x23, .int x24, .ref h7, .int x25, .int x26, .int x27, .int x28, .ref h8, .ref h9, .int x29, .int x30, .long z0, .int x31, .int x32, .ref h10, .ref h11, .ref h12, .ref h13, .ref h14, .int x33, .int x34, .int x35, .int x36, .int x37, .int x38, .int x39, .int x40, .int x41, .ref h15, .ref h16, .int x42, .int x43, .int x44, .int x45, .int x46, .int x47, .int x48, .int x49, .ref h17, .int x50, .int x51, .int x52, .int x53, .int x54])), (h3, .inl (y0, 3, .inl f0)), (h4, .inl (y1, 3, .inl f1)), (h1, .inl (y2, 65536, .inl f2))] sz) := by
  refine Met.ofW (cc := cX12_peek) (maxL := 2) (ret := (some .int)) (by decide) rfl ?_
  intro p e s m args below meth c s₁ B hml hv
  obtain ⟨rfl, hsz, hP, hK, hD0⟩ := hv
  have hx := B.exec
  have hb := B.bytes
  have hr := B.returns
  have hts0 := atoms_spec (ws := Cond.code yX12_peek cX12_peek 2 (some .int) :: lw_G) B.pre
  have hG : ∀ w ∈ lw_G, w.before _ s = true := fun w h => hts0 w (List.mem_cons_of_mem _ h)
  have hown : s.vm.findClass RX12 = some m.cls := findClass_of_methodNamed B.named
  have hlocks := B.notSynchronized
  subst hsz
  have hD := hD0.self (sz := s.heap.size)
  generalize hAe : va_A [(h0, .inr (12, .int x1 :: .ref h1 :: .ref h2 :: .int x2 :: .int x3 :: .int x4 :: .int x5 :: .int x6 :: .int x7 :: .int x8 :: .int x9 :: .int x10 :: [.int x11, .int x12, .int x13, .int x14, .int x15, .int x16, .ref h3, .ref h4, .ref h5, .ref h6, .int x17, .int x18, .int x19, .int x20, .int x21, .int x22, .int x23, .int x24, .ref h7, .int x25, .int x26, .int x27, .int x28, .ref h8, .ref h9, .int x29, .int x30, .long z0, .int x31, .int x32, .ref h10, .ref h11, .ref h12, .ref h13, .ref h14, .int x33, .int x34, .int x35, .int x36, .int x37, .int x38, .int x39, .int x40, .int x41, .ref h15, .ref h16, .int x42, .int x43, .int x44, .int x45, .int x46, .int x47, .int x48, .int x49, .ref h17, .int x50, .int x51, .int x52, .int x53, .int x54])), (h3, .inl (y0, 3, .inl f0)), (h4, .inl (y1, 3, .inl f1)), (h1, .inl (y2, 65536, .inl f2))] s.heap.size = A at hD ⊢
  have hA : ∀ q : Nat, s.heap.size ≤ q → A q := fun q h => by rw [← hAe]; exact Or.inr h
  have hS : va_S A s.heap s.heap [] := va_S.rf
  have hP : va_P (dC, dI) vwCl [(h0, .inr (12, .int x1 :: .ref h1 :: .ref h2 :: .int x2 :: .int x3 :: .int x4 :: .int x5 :: .int x6 :: .int x7 :: .int x8 :: .int x9 :: .int x10 :: [.int x11, .int x12, .int x13, .int x14, .int x15, .int x16, .ref h3, .ref h4, .ref h5, .ref h6, .int x17, .int x18, .int x19, .int x20, .int x21, .int x22, .int x23, .int x24, .ref h7, .int x25, .int x26, .int x27, .int x28, .ref h8, .ref h9, .int x29, .int x30, .long z0, .int x31, .int x32, .ref h10, .ref h11, .ref h12, .ref h13, .ref h14, .int x33, .int x34, .int x35, .int x36, .int x37, .int x38, .int x39, .int x40, .int x41, .ref h15, .ref h16, .int x42, .int x43, .int x44, .int x45, .int x46, .int x47, .int x48, .int x49, .ref h17, .int x50, .int x51, .int x52, .int x53, .int x54])), (h3, .inl (y0, 3, .inl f0)), (h4, .inl (y1, 3, .inl f1)), (h1, .inl (y2, 65536, .inl f2))] s.heap := hP
  have hl := lv_entry ([.ref h0, .int x0]) (n := 2) (Nat.le_of_ble_eq_true rfl)
  rw [lg_entry_eq]
  generalize (lg_sl ([.ref h0, .int x0]) ++ List.replicate (2 - (lg_sl ([.ref h0, .int x0])).length) Slot.unset).toArray = ls at hl ⊢
  have hl : lv_has ls 2 [(0, .ref h0), (1, .int x0)] := hl
  generalize ([.ref h0, .int x0] : List Value).toArray = ar at hG ⊢
  refine wq (fun Q hQ => ?_)
  refine lv_aload_n hx hb dX12_peek_0 rfl (lv_at hl 0 rfl) ?_
  refine lv_iload_n hx hb dX12_peek_1 rfl (lv_at hl 1 rfl) ?_
  refine lv_if_lt (tgt := 11) hx hb dX12_peek_2 (by decide) (fun c1 => ?_) (fun c1 => ?_)
  · skip
    have j2 : iv x0 (-2147483648) (-1) := iv_ltL (iv_any x0) (by decide : iv 0 0 0) c1 (by decide)
    refine lv_iconst (v := 1) hx hb dX12_peek_11 (by decide) ?_
    refine lv_goto (tgt := 16) hx hb dX12_peek_12 (by decide) ?_
    obtain ⟨hPc, hDc, hFc⟩ := nv_sub3 (wc := [(h0, .inr (12, .int x1 :: .ref h1 :: .ref h2 :: .int x2 :: .int x3 :: .int x4 :: .int x5 :: .int x6 :: .int x7 :: .int x8 :: .int x9 :: .int x10 :: [.int x11, .int x12, .int x13, .int x14, .int x15, .int x16, .ref h3, .ref h4, .ref h5, .ref h6, .int x17, .int x18, .int x19, .int x20, .int x21, .int x22, .int x23, .int x24, .ref h7, .int x25, .int x26, .int x27, .int x28, .ref h8, .ref h9, .int x29, .int x30, .long z0, .int x31, .int x32, .ref h10, .ref h11, .ref h12, .ref h13, .ref h14, .int x33, .int x34, .int x35, .int x36, .int x37, .int x38, .int x39, .int x40, .int x41, .ref h15, .ref h16, .int x42, .int x43, .int x44, .int x45, .int x46, .int x47, .int x48, .int x49, .ref h17, .int x50, .int x51, .int x52, .int x53, .int x54]))]) hP hD hS hA [0] (by decide) rfl
    have hKc := hK.sub (tys' := []) [] rfl
    refine va_calli (va_runV (As := [.int 1]) (rest := []) ⟨hx, hb, hml, hown, hG⟩ (cX12_throwsIf_1 l dC dI h0 h1 h2 h3 h4 h5 h6 h7 h8 h9 h10 h11 h12 h13 h14 h15 h16 h17 s.heap.size x1 x2 x3 x4 x5 x6 x7 x8 x9 x10 x11 x12 x13 x14 x15 x16 x17 x18 x19 x20 x21 x22 x23 x24 x25 x26 x27 x28 x29 x30 x31 x32 x33 x34 x35 x36 x37 x38 x39 x40 x41 x42 x43 x44 x45 x46 x47 x48 x49 x50 x51 x52 x53 x54 z0 ix16 ix17 ix22 ix23 ix24 ix25 ix26 ix27 ix28 ix32 ix33 ix34 ix35 ix36 ix37 ix42 ix43 ix47 ix48 ix50 ix54) (cwV 1 hG (gV wd_1562 wd_1564 wp_71 wd_17 wd_1565) rfl rfl rfl (by decide +kernel) ⟨Nat.le_of_ble_eq_true rfl, Nat.le_of_ble_eq_true rfl⟩) ⟨fun a U g mk q => by obtain ⟨q0, q1, qP, qK, qD⟩ := q; exact ⟨q0, q1, qP, va_K.moved (u := U) (U := U.calling g mk a) (Vm.Alike.refl U.vm) qK, qD⟩, va_recv hKc hPc (ci := 12) (q0 := 0) rfl rfl, fun U hU hW => ⟨rfl, by rw [hU], by rw [hU]; exact hPc, va_K.moved hW.alike hKc, hDc.weaken (fun _ _ _ _ => trivial)⟩⟩ rfl rfl hl.1 rfl (lv_room (Nat.le_of_ble_eq_true rfl)) dX12_peek_16 ⟨by decide, by decide⟩) hS (fun q _ h => hFc q h) hFc (fun r3 u4 t H1 locs ht hvm hw hB hz1 hk1 hS => ?_)
    have hw : r3 = 1 ∧ True := hw
    obtain ⟨er3, -⟩ := hw
    obtain ⟨hP1, hK1, hD1⟩ := hB
    rw [ht] at hP1
    have hK1 := va_K.moved hvm.symm hK1
    obtain ⟨hP, hD⟩ := nv_join (wf := [(h3, .inl (y0, 3, .inl f0)), (h4, .inl (y1, 3, .inl f1)), (h1, .inl (y2, 65536, .inl f2)), (h0, .inr (12, .int 1 :: .ref h1 :: .ref h2 :: .int x2 :: .int x3 :: .int x4 :: .int x5 :: .int x6 :: .int x7 :: .int x8 :: .int x9 :: .int x10 :: [.int x11, .int x12, .int x13, .int x14, .int x15, .int x16, .ref h3, .ref h4, .ref h5, .ref h6, .int x17, .int x18, .int x19, .int x20, .int x21, .int x22, .int x23, .int x24, .ref h7, .int x25, .int x26, .int x27, .int x28, .ref h8, .ref h9, .int x29, .int x30, .long z0, .int x31, .int x32, .ref h10, .ref h11, .ref h12, .ref h13, .ref h14, .int x33, .int x34, .int x35, .int x36, .int x37, .int x38, .int x39, .int x40, .int x41, .ref h15, .ref h16, .int x42, .int x43, .int x44, .int x45, .int x46, .int x47, .int x48, .int x49, .ref h17, .int x50, .int x51, .int x52, .int x53, .int x54]))]) hP hD [0] [1, 2, 3] rfl rfl (by decide) (by decide) hk1 hFc hP1 hD1 rfl
    have hK := (hK.sub (tys' := [(y0, .int), (y1, .int), (y2, .byte)]) [0, 1, 2] rfl).app hK1
    generalize H1 = H at hP hS ⊢
    have hK : va_K (dC, dI) vwCl [(y0, .int), (y1, .int), (y2, .byte)] s := hK
    clear hKc hPc hDc hFc hP1 hD1 hK1 hk1 hz1
    subst er3
    refine lv_if_eq (tgt := 26) hx hb dX12_peek_19 (by decide) (fun c => absurd c (by decide)) (fun _ => ?_)
    refine lv_iconst (v := 0) hx hb dX12_peek_22 (by decide) ?_
    refine lv_goto (tgt := 31) hx hb dX12_peek_23 (by decide) ?_
    rw [hQ]
    obtain ⟨hP9, hD9⟩ := nv_sub2 (wc := [(h0, .inr (12, .int 1 :: .ref h1 :: .ref h2 :: .int x2 :: .int x3 :: .int x4 :: .int x5 :: .int x6 :: .int x7 :: .int x8 :: .int x9 :: .int x10 :: [.int x11, .int x12, .int x13, .int x14, .int x15, .int x16, .ref h3, .ref h4, .ref h5, .ref h6, .int x17, .int x18, .int x19, .int x20, .int x21, .int x22, .int x23, .int x24, .ref h7, .int x25, .int x26, .int x27, .int x28, .ref h8, .ref h9, .int x29, .int x30, .long z0, .int x31, .int x32, .ref h10, .ref h11, .ref h12, .ref h13, .ref h14, .int x33, .int x34, .int x35, .int x36, .int x37, .int x38, .int x39, .int x40, .int x41, .ref h15, .ref h16, .int x42, .int x43, .int x44, .int x45, .int x46, .int x47, .int x48, .int x49, .ref h17, .int x50, .int x51, .int x52, .int x53, .int x54])), (h3, .inl (y0, 3, .inl f0)), (h4, .inl (y1, 3, .inl f1)), (h1, .inl (y2, 65536, .inl f2))]) hP hD [3, 0, 1, 2] (by decide) rfl
    have hK9 := hK.sub (tys' := [(y0, .int), (y1, .int), (y2, .byte)]) [0, 1, 2] rfl
    exact W.iret (v := 0) hx hb hr (fun t ht hW => ⟨⟨0, 1, rfl, ⟨iv_w (by decide : iv 1 1 1) (by decide) (by decide), trivial⟩, by rw [ht]; exact hP9, va_K.moved hW.alike hK9, hD9⟩, hS.F ht⟩) hS.2.2 dX12_peek_31
  · skip
    have j5 : iv x0 0 2147483647 := iv_nltL (iv_any x0) (by decide : iv 0 0 0) c1 (by decide)
    refine lv_iload_n hx hb dX12_peek_5 rfl (lv_at hl 1 rfl) ?_
    refine lv_ldc hx hb hown (hG _ wd_1553) dX12_peek_6 ?_
    refine lv_icmp_le (tgt := 15) hx hb dX12_peek_8 (by decide) (fun c6 => ?_) (fun c6 => ?_)
    · skip
      have j7 : iv x0 0 65535 := iv_leL j5 (by decide : iv 65535 65535 65535) c6 (by decide)
      refine lv_iconst (v := 0) hx hb dX12_peek_15 (by decide) ?_
      obtain ⟨hPc, hDc, hFc⟩ := nv_sub3 (wc := [(h0, .inr (12, .int x1 :: .ref h1 :: .ref h2 :: .int x2 :: .int x3 :: .int x4 :: .int x5 :: .int x6 :: .int x7 :: .int x8 :: .int x9 :: .int x10 :: [.int x11, .int x12, .int x13, .int x14, .int x15, .int x16, .ref h3, .ref h4, .ref h5, .ref h6, .int x17, .int x18, .int x19, .int x20, .int x21, .int x22, .int x23, .int x24, .ref h7, .int x25, .int x26, .int x27, .int x28, .ref h8, .ref h9, .int x29, .int x30, .long z0, .int x31, .int x32, .ref h10, .ref h11, .ref h12, .ref h13, .ref h14, .int x33, .int x34, .int x35, .int x36, .int x37, .int x38, .int x39, .int x40, .int x41, .ref h15, .ref h16, .int x42, .int x43, .int x44, .int x45, .int x46, .int x47, .int x48, .int x49, .ref h17, .int x50, .int x51, .int x52, .int x53, .int x54]))]) hP hD hS hA [0] (by decide) rfl
      have hKc := hK.sub (tys' := []) [] rfl
      refine va_calli (va_runV (As := [.int 0]) (rest := []) ⟨hx, hb, hml, hown, hG⟩ (cX12_throwsIf_2 l dC dI h0 h1 h2 h3 h4 h5 h6 h7 h8 h9 h10 h11 h12 h13 h14 h15 h16 h17 s.heap.size x1 x2 x3 x4 x5 x6 x7 x8 x9 x10 x11 x12 x13 x14 x15 x16 x17 x18 x19 x20 x21 x22 x23 x24 x25 x26 x27 x28 x29 x30 x31 x32 x33 x34 x35 x36 x37 x38 x39 x40 x41 x42 x43 x44 x45 x46 x47 x48 x49 x50 x51 x52 x53 x54 z0 ix16 ix17 ix22 ix23 ix24 ix25 ix26 ix27 ix28 ix32 ix33 ix34 ix35 ix36 ix37 ix42 ix43 ix47 ix48 ix50 ix54) (cwV 1 hG (gV wd_1562 wd_1564 wp_71 wd_17 wd_1565) rfl rfl rfl (by decide +kernel) ⟨Nat.le_of_ble_eq_true rfl, Nat.le_of_ble_eq_true rfl⟩) ⟨fun a U g mk q => by obtain ⟨q0, q1, qP, qK, qD⟩ := q; exact ⟨q0, q1, qP, va_K.moved (u := U) (U := U.calling g mk a) (Vm.Alike.refl U.vm) qK, qD⟩, va_recv hKc hPc (ci := 12) (q0 := 0) rfl rfl, fun U hU hW => ⟨rfl, by rw [hU], by rw [hU]; exact hPc, va_K.moved hW.alike hKc, hDc.weaken (fun _ _ _ _ => trivial)⟩⟩ rfl rfl hl.1 rfl (lv_room (Nat.le_of_ble_eq_true rfl)) dX12_peek_16 ⟨by decide, by decide⟩) hS (fun q _ h => hFc q h) hFc (fun r8 u9 t H1 locs ht hvm hw hB hz1 hk1 hS => ?_)
      have hw : r8 = 0 ∧ True := hw
      obtain ⟨er8, -⟩ := hw
      obtain ⟨hP1, hK1, hD1⟩ := hB
      rw [ht] at hP1
      have hK1 := va_K.moved hvm.symm hK1
      obtain ⟨hP, hD⟩ := nv_join (wf := [(h3, .inl (y0, 3, .inl f0)), (h4, .inl (y1, 3, .inl f1)), (h1, .inl (y2, 65536, .inl f2)), (h0, .inr (12, .int 0 :: .ref h1 :: .ref h2 :: .int x2 :: .int x3 :: .int x4 :: .int x5 :: .int x6 :: .int x7 :: .int x8 :: .int x9 :: .int x10 :: [.int x11, .int x12, .int x13, .int x14, .int x15, .int x16, .ref h3, .ref h4, .ref h5, .ref h6, .int x17, .int x18, .int x19, .int x20, .int x21, .int x22, .int x23, .int x24, .ref h7, .int x25, .int x26, .int x27, .int x28, .ref h8, .ref h9, .int x29, .int x30, .long z0, .int x31, .int x32, .ref h10, .ref h11, .ref h12, .ref h13, .ref h14, .int x33, .int x34, .int x35, .int x36, .int x37, .int x38, .int x39, .int x40, .int x41, .ref h15, .ref h16, .int x42, .int x43, .int x44, .int x45, .int x46, .int x47, .int x48, .int x49, .ref h17, .int x50, .int x51, .int x52, .int x53, .int x54]))]) hP hD [0] [1, 2, 3] rfl rfl (by decide) (by decide) hk1 hFc hP1 hD1 rfl
      have hK := (hK.sub (tys' := [(y0, .int), (y1, .int), (y2, .byte)]) [0, 1, 2] rfl).app hK1
      generalize H1 = H at hP hS ⊢
      have hK : va_K (dC, dI) vwCl [(y0, .int), (y1, .int), (y2, .byte)] s := hK
      clear hKc hPc hDc hFc hP1 hD1 hK1 hk1 hz1
      subst er8
      refine lv_if_eq (tgt := 26) hx hb dX12_peek_19 (by decide) (fun _ => ?_) (fun c => absurd (by decide) c)
      refine lv_aload_n hx hb dX12_peek_26 rfl (lv_at hl 0 rfl) ?_
      refine lv_iload_n hx hb dX12_peek_27 rfl (lv_at hl 1 rfl) ?_
      obtain ⟨hPc, hDc, hFc⟩ := nv_sub3 (wc := [(h0, .inr (12, .int 0 :: .ref h1 :: .ref h2 :: .int x2 :: .int x3 :: .int x4 :: .int x5 :: .int x6 :: .int x7 :: .int x8 :: .int x9 :: .int x10 :: [.int x11, .int x12, .int x13, .int x14, .int x15, .int x16, .ref h3, .ref h4, .ref h5, .ref h6, .int x17, .int x18, .int x19, .int x20, .int x21, .int x22, .int x23, .int x24, .ref h7, .int x25, .int x26, .int x27, .int x28, .ref h8, .ref h9, .int x29, .int x30, .long z0, .int x31, .int x32, .ref h10, .ref h11, .ref h12, .ref h13, .ref h14, .int x33, .int x34, .int x35, .int x36, .int x37, .int x38, .int x39, .int x40, .int x41, .ref h15, .ref h16, .int x42, .int x43, .int x44, .int x45, .int x46, .int x47, .int x48, .int x49, .ref h17, .int x50, .int x51, .int x52, .int x53, .int x54])), (h3, .inl (y0, 3, .inl f0)), (h4, .inl (y1, 3, .inl f1)), (h1, .inl (y2, 65536, .inl f2))]) hP hD hS hA [3, 0, 1, 2] (by decide) rfl
      have hKc := hK.sub (tys' := [(y0, .int), (y1, .int), (y2, .byte)]) [0, 1, 2] rfl
      refine va_calli (va_runV (As := [.int x0]) (rest := []) ⟨hx, hb, hml, hown, hG⟩ (cX12_peekByte_1 l dC dI h0 h1 h2 h3 h4 h5 h6 h7 h8 h9 h10 h11 h12 h13 h14 h15 h16 h17 y0 y1 y2 H.size x0 0 x2 x3 x4 x5 x6 x7 x8 x9 x10 x11 x12 x13 x14 x15 x16 x17 x18 x19 x20 x21 x22 x23 x24 x25 x26 x27 x28 x29 x30 x31 x32 x33 x34 x35 x36 x37 x38 x39 x40 x41 x42 x43 x44 x45 x46 x47 x48 x49 x50 x51 x52 x53 x54 z0 f0 f1 f2 j7 ix16 ix17 ix22 ix23 ix24 ix25 ix26 ix27 ix28 ix32 ix33 ix34 ix35 ix36 ix37 ix42 ix43 ix47 ix48 ix50 ix54 if2) (cwV 1 hG (gV wd_1533 wd_1535 wp_66 wd_17 wd_1536) rfl rfl rfl (by decide +kernel) ⟨Nat.le_of_ble_eq_true rfl, Nat.le_of_ble_eq_true rfl⟩) ⟨fun a U g mk q => by obtain ⟨q0, q1, qP, qK, qD⟩ := q; exact ⟨q0, q1, qP, va_K.moved (u := U) (U := U.calling g mk a) (Vm.Alike.refl U.vm) qK, qD⟩, va_recv hKc hPc (ci := 12) (q0 := 0) rfl rfl, fun U hU hW => ⟨rfl, by rw [hU], by rw [hU]; exact hPc, va_K.moved hW.alike hKc, hDc.weaken (fun _ _ _ _ => trivial)⟩⟩ rfl rfl hl.1 rfl (lv_room (Nat.le_of_ble_eq_true rfl)) dX12_peek_28 ⟨by decide, by decide⟩) hS (fun q _ h => hFc q h) hFc (fun r10 u11 t H1 locs ht hvm hw hB hz1 hk1 hS => ?_)
      obtain ⟨hP1, hK1, hD1⟩ := hB
      rw [ht] at hP1
      have hK1 := va_K.moved hvm.symm hK1
      obtain ⟨hP, hD⟩ := nv_join (wf := [(h0, .inr (12, .int 0 :: .ref h1 :: .ref h2 :: .int x2 :: .int x3 :: .int x4 :: .int x5 :: .int x6 :: .int x7 :: .int x8 :: .int x9 :: .int x10 :: [.int x11, .int x12, .int x13, .int x14, .int x15, .int x16, .ref h3, .ref h4, .ref h5, .ref h6, .int x17, .int x18, .int x19, .int x20, .int x21, .int x22, .int x23, .int x24, .ref h7, .int x25, .int x26, .int x27, .int x28, .ref h8, .ref h9, .int x29, .int x30, .long z0, .int x31, .int x32, .ref h10, .ref h11, .ref h12, .ref h13, .ref h14, .int x33, .int x34, .int x35, .int x36, .int x37, .int x38, .int x39, .int x40, .int x41, .ref h15, .ref h16, .int x42, .int x43, .int x44, .int x45, .int x46, .int x47, .int x48, .int x49, .ref h17, .int x50, .int x51, .int x52, .int x53, .int x54])), (h3, .inl (y0, 3, .inl f0)), (h4, .inl (y1, 3, .inl f1)), (h1, .inl (y2, 65536, .inl f2))]) hP hD [3, 0, 1, 2] [] rfl rfl (by decide) (by decide) hk1 hFc hP1 hD1 rfl
      have hK := (hK.sub (tys' := []) [] rfl).app hK1
      generalize H1 = H at hP hS ⊢
      have hK : va_K (dC, dI) vwCl [(y0, .int), (y1, .int), (y2, .byte)] s := hK
      clear hKc hPc hDc hFc hP1 hD1 hK1 hk1 hz1 hw
      rw [hQ]
      obtain ⟨hP9, hD9⟩ := nv_sub2 (wc := [(h0, .inr (12, .int 0 :: .ref h1 :: .ref h2 :: .int x2 :: .int x3 :: .int x4 :: .int x5 :: .int x6 :: .int x7 :: .int x8 :: .int x9 :: .int x10 :: [.int x11, .int x12, .int x13, .int x14, .int x15, .int x16, .ref h3, .ref h4, .ref h5, .ref h6, .int x17, .int x18, .int x19, .int x20, .int x21, .int x22, .int x23, .int x24, .ref h7, .int x25, .int x26, .int x27, .int x28, .ref h8, .ref h9, .int x29, .int x30, .long z0, .int x31, .int x32, .ref h10, .ref h11, .ref h12, .ref h13, .ref h14, .int x33, .int x34, .int x35, .int x36, .int x37, .int x38, .int x39, .int x40, .int x41, .ref h15, .ref h16, .int x42, .int x43, .int x44, .int x45, .int x46, .int x47, .int x48, .int x49, .ref h17, .int x50, .int x51, .int x52, .int x53, .int x54])), (h3, .inl (y0, 3, .inl f0)), (h4, .inl (y1, 3, .inl f1)), (h1, .inl (y2, 65536, .inl f2))]) hP hD [0, 1, 2, 3] (by decide) rfl
      have hK9 := hK.sub (tys' := [(y0, .int), (y1, .int), (y2, .byte)]) [0, 1, 2] rfl
      exact W.iret (v := r10) hx hb hr (fun t ht hW => ⟨⟨r10, 0, rfl, ⟨iv_w (by decide : iv 0 0 0) (by decide) (by decide), trivial⟩, by rw [ht]; exact hP9, va_K.moved hW.alike hK9, hD9⟩, hS.F ht⟩) hS.2.2 dX12_peek_31
    · skip
      have j12 : iv x0 65536 2147483647 := iv_nleL j5 (by decide : iv 65535 65535 65535) c6 (by decide)
      refine lv_iconst (v := 1) hx hb dX12_peek_11 (by decide) ?_
      refine lv_goto (tgt := 16) hx hb dX12_peek_12 (by decide) ?_
      obtain ⟨hPc, hDc, hFc⟩ := nv_sub3 (wc := [(h0, .inr (12, .int x1 :: .ref h1 :: .ref h2 :: .int x2 :: .int x3 :: .int x4 :: .int x5 :: .int x6 :: .int x7 :: .int x8 :: .int x9 :: .int x10 :: [.int x11, .int x12, .int x13, .int x14, .int x15, .int x16, .ref h3, .ref h4, .ref h5, .ref h6, .int x17, .int x18, .int x19, .int x20, .int x21, .int x22, .int x23, .int x24, .ref h7, .int x25, .int x26, .int x27, .int x28, .ref h8, .ref h9, .int x29, .int x30, .long z0, .int x31, .int x32, .ref h10, .ref h11, .ref h12, .ref h13, .ref h14, .int x33, .int x34, .int x35, .int x36, .int x37, .int x38, .int x39, .int x40, .int x41, .ref h15, .ref h16, .int x42, .int x43, .int x44, .int x45, .int x46, .int x47, .int x48, .int x49, .ref h17, .int x50, .int x51, .int x52, .int x53, .int x54]))]) hP hD hS hA [0] (by decide) rfl
      have hKc := hK.sub (tys' := []) [] rfl
      refine va_calli (va_runV (As := [.int 1]) (rest := []) ⟨hx, hb, hml, hown, hG⟩ (cX12_throwsIf_1 l dC dI h0 h1 h2 h3 h4 h5 h6 h7 h8 h9 h10 h11 h12 h13 h14 h15 h16 h17 s.heap.size x1 x2 x3 x4 x5 x6 x7 x8 x9 x10 x11 x12 x13 x14 x15 x16 x17 x18 x19 x20 x21 x22 x23 x24 x25 x26 x27 x28 x29 x30 x31 x32 x33 x34 x35 x36 x37 x38 x39 x40 x41 x42 x43 x44 x45 x46 x47 x48 x49 x50 x51 x52 x53 x54 z0 ix16 ix17 ix22 ix23 ix24 ix25 ix26 ix27 ix28 ix32 ix33 ix34 ix35 ix36 ix37 ix42 ix43 ix47 ix48 ix50 ix54) (cwV 1 hG (gV wd_1562 wd_1564 wp_71 wd_17 wd_1565) rfl rfl rfl (by decide +kernel) ⟨Nat.le_of_ble_eq_true rfl, Nat.le_of_ble_eq_true rfl⟩) ⟨fun a U g mk q => by obtain ⟨q0, q1, qP, qK, qD⟩ := q; exact ⟨q0, q1, qP, va_K.moved (u := U) (U := U.calling g mk a) (Vm.Alike.refl U.vm) qK, qD⟩, va_recv hKc hPc (ci := 12) (q0 := 0) rfl rfl, fun U hU hW => ⟨rfl, by rw [hU], by rw [hU]; exact hPc, va_K.moved hW.alike hKc, hDc.weaken (fun _ _ _ _ => trivial)⟩⟩ rfl rfl hl.1 rfl (lv_room (Nat.le_of_ble_eq_true rfl)) dX12_peek_16 ⟨by decide, by decide⟩) hS (fun q _ h => hFc q h) hFc (fun r13 u14 t H1 locs ht hvm hw hB hz1 hk1 hS => ?_)
      have hw : r13 = 1 ∧ True := hw
      obtain ⟨er13, -⟩ := hw
      obtain ⟨hP1, hK1, hD1⟩ := hB
      rw [ht] at hP1
      have hK1 := va_K.moved hvm.symm hK1
      obtain ⟨hP, hD⟩ := nv_join (wf := [(h3, .inl (y0, 3, .inl f0)), (h4, .inl (y1, 3, .inl f1)), (h1, .inl (y2, 65536, .inl f2)), (h0, .inr (12, .int 1 :: .ref h1 :: .ref h2 :: .int x2 :: .int x3 :: .int x4 :: .int x5 :: .int x6 :: .int x7 :: .int x8 :: .int x9 :: .int x10 :: [.int x11, .int x12, .int x13, .int x14, .int x15, .int x16, .ref h3, .ref h4, .ref h5, .ref h6, .int x17, .int x18, .int x19, .int x20, .int x21, .int x22, .int x23, .int x24, .ref h7, .int x25, .int x26, .int x27, .int x28, .ref h8, .ref h9, .int x29, .int x30, .long z0, .int x31, .int x32, .ref h10, .ref h11, .ref h12, .ref h13, .ref h14, .int x33, .int x34, .int x35, .int x36, .int x37, .int x38, .int x39, .int x40, .int x41, .ref h15, .ref h16, .int x42, .int x43, .int x44, .int x45, .int x46, .int x47, .int x48, .int x49, .ref h17, .int x50, .int x51, .int x52, .int x53, .int x54]))]) hP hD [0] [1, 2, 3] rfl rfl (by decide) (by decide) hk1 hFc hP1 hD1 rfl
      have hK := (hK.sub (tys' := [(y0, .int), (y1, .int), (y2, .byte)]) [0, 1, 2] rfl).app hK1
      generalize H1 = H at hP hS ⊢
      have hK : va_K (dC, dI) vwCl [(y0, .int), (y1, .int), (y2, .byte)] s := hK
      clear hKc hPc hDc hFc hP1 hD1 hK1 hk1 hz1
      subst er13
      refine lv_if_eq (tgt := 26) hx hb dX12_peek_19 (by decide) (fun c => absurd c (by decide)) (fun _ => ?_)
      refine lv_iconst (v := 0) hx hb dX12_peek_22 (by decide) ?_
      refine lv_goto (tgt := 31) hx hb dX12_peek_23 (by decide) ?_
      rw [hQ]
      obtain ⟨hP9, hD9⟩ := nv_sub2 (wc := [(h0, .inr (12, .int 1 :: .ref h1 :: .ref h2 :: .int x2 :: .int x3 :: .int x4 :: .int x5 :: .int x6 :: .int x7 :: .int x8 :: .int x9 :: .int x10 :: [.int x11, .int x12, .int x13, .int x14, .int x15, .int x16, .ref h3, .ref h4, .ref h5, .ref h6, .int x17, .int x18, .int x19, .int x20, .int x21, .int x22, .int x23, .int x24, .ref h7, .int x25, .int x26, .int x27, .int x28, .ref h8, .ref h9, .int x29, .int x30, .long z0, .int x31, .int x32, .ref h10, .ref h11, .ref h12, .ref h13, .ref h14, .int x33, .int x34, .int x35, .int x36, .int x37, .int x38, .int x39, .int x40, .int x41, .ref h15, .ref h16, .int x42, .int x43, .int x44, .int x45, .int x46, .int x47, .int x48, .int x49, .ref h17, .int x50, .int x51, .int x52, .int x53, .int x54])), (h3, .inl (y0, 3, .inl f0)), (h4, .inl (y1, 3, .inl f1)), (h1, .inl (y2, 65536, .inl f2))]) hP hD [3, 0, 1, 2] (by decide) rfl
      have hK9 := hK.sub (tys' := [(y0, .int), (y1, .int), (y2, .byte)]) [0, 1, 2] rfl
      exact W.iret (v := 0) hx hb hr (fun t ht hW => ⟨⟨0, 1, rfl, ⟨iv_w (by decide : iv 1 1 1) (by decide) (by decide), trivial⟩, by rw [ht]; exact hP9, va_K.moved hW.alike hK9, hD9⟩, hS.F ht⟩) hS.2.2 dX12_peek_31
set_option maxHeartbeats 100000000 in
set_option maxRecDepth 100000 in
theorem cX11_peek_2 (l : Launch) (hst : l.stackTraces = false) (dC : Nat → ClassId) (dI : Nat → Nat → Nat) (adK adV : Nat → Nat) (h0 h1 h2 h3 h4 h5 : Nat) (sz : Nat) (x0 x1 x2 : Int32) (ix0 : iv x0 65536 2147483647) (ix1 : iv x1 0 2600) : vx_Met l yX11_peek (Cond.code yX11_peek cX11_peek 2 (some .int) :: lw_G) ({ frames := 6, cells := 1, slots := 6, locals := 82 }) (va_Pc [.ref h0, .int x0] (fun U => U.heap.size = sz ∧ va_P (dC, dI) vwCl [(h0, .inr (11, [.ref h1, .ref h2, .ref h3, .ref h4, .ref h5, .int x1, .int x2]))] U.heap ∧ va_K (dC, dI) vwCl [] U ∧ va_D (fun _ => True) [(h0, .inr (11, [.ref h1, .ref h2, .ref h3, .ref h4, .ref h5, .int x1, .int x2]))] ∧ ev adK adV (va_A [(h0, .inr (11, [.ref h1, .ref h2, .ref h3, .ref h4, .ref h5, .int x1, .int x2]))] sz) U U.heap)) (va_Qi (fun (_ : Int32) (_ : Unit) => False) (fun _ _ => True) (va_A [(h0, .inr (11, [.ref h1, .ref h2, .ref h3, .ref h4, .ref h5, .int x1, .int x2]))] sz)) (vx_X (fun (_ : Unit) => True) (fun (E : String) (_ : Unit) (t : State) => E = "java/lang/IndexOutOfBoundsException" ∧ va_P (dC, dI) vwCl [(h0, .inr (11, [.ref h1, .ref h2, .ref h3, .ref h4, .ref h5, .int x1, .int x2]))] t.heap ∧ va_K (dC, dI) vwCl [] t ∧ va_D (va_A [(h0, .inr (11, [.ref h1, .ref h2, .ref h3, .ref h4, .ref h5, .int x1, .int x2]))] sz) [(h0, .inr (11, [.ref h1, .ref h2, .ref h3, .ref h4, .ref h5, .int x1, .int x2]))]) (va_A [(h0, .inr (11, [.ref h1, .ref h2, .ref h3, .ref h4, .ref h5, .int x1, .int x2]))] sz)) 1 6 (va_A [(h0, .inr (11, [.ref h1, .ref h2, .ref h3, .ref h4, .ref h5, .int x1, .int x2]))] sz) := by
  refine vx_ofW (cc := cX11_peek) (maxL := 2) (ret := (some .int)) (by decide) rfl ?_
  intro p e s m args below meth c s₁ B hml htab hv
  obtain ⟨rfl, hsz, hP, hK, hD0, hE⟩ := hv
  have hx := B.exec
  have hb := B.bytes
  have hr := B.returns
  have hts0 := atoms_spec (ws := Cond.code yX11_peek cX11_peek 2 (some .int) :: lw_G) B.pre
  have hG : ∀ w ∈ lw_G, w.before _ s = true := fun w h => hts0 w (List.mem_cons_of_mem _ h)
  have hown : s.vm.findClass RX11 = some m.cls := findClass_of_methodNamed B.named
  have hlocks := B.notSynchronized
  subst hsz
  have hD := hD0.self (sz := s.heap.size)
  generalize hAe : va_A [(h0, .inr (11, [.ref h1, .ref h2, .ref h3, .ref h4, .ref h5, .int x1, .int x2]))] s.heap.size = A at hD hE ⊢
  have hA : ∀ q : Nat, s.heap.size ≤ q → A q := fun q h => by rw [← hAe]; exact Or.inr h
  have hS : va_S A s.heap s.heap [] := va_S.rf
  have hP : va_P (dC, dI) vwCl [(h0, .inr (11, [.ref h1, .ref h2, .ref h3, .ref h4, .ref h5, .int x1, .int x2]))] s.heap := hP
  have hl := lv_entry ([.ref h0, .int x0]) (n := 2) (Nat.le_of_ble_eq_true rfl)
  rw [lg_entry_eq]
  generalize (lg_sl ([.ref h0, .int x0]) ++ List.replicate (2 - (lg_sl ([.ref h0, .int x0])).length) Slot.unset).toArray = ls at hl ⊢
  have hl : lv_has ls 2 [(0, .ref h0), (1, .int x0)] := hl
  refine lv_iload_n hx hb dX11_peek_0 rfl (lv_at hl 1 rfl) ?_
  refine lv_if_lt (tgt := 10) hx hb dX11_peek_1 (by decide) (fun c => absurd c (iv_nlt ix0 (by decide : iv 0 0 0) (by decide))) (fun _ => ?_)
  refine lv_iload_n hx hb dX11_peek_4 rfl (lv_at hl 1 rfl) ?_
  refine lv_ldc hx hb hown (hG _ wd_1157) dX11_peek_5 ?_
  refine lv_icmp_lt (tgt := 20) hx hb dX11_peek_7 (by decide) (fun c => absurd c (iv_nlt ix0 (by decide : iv 65536 65536 65536) (by decide))) (fun _ => ?_)
  obtain ⟨hP9, hD9⟩ := nv_sub2 (wc := [(h0, .inr (11, [.ref h1, .ref h2, .ref h3, .ref h4, .ref h5, .int x1, .int x2]))]) hP hD [0] (by decide) rfl
  have hK9 := hK.sub (tys' := []) [] rfl
  refine vx_throwS (own := RX11) (cls := "java/lang/IndexOutOfBoundsException") (text := evT4) (names := ["java/lang/RuntimeException", "java/lang/Exception"]) hx hb hst hown (by decide) (by decide) (hG _ wd_1126) (hG _ wd_24) (evR4 hE) (evA1 hE hG) evG1_106 hE.2.2.2.1 hE.2.2.2.2.1 hS (by rw [hml]; exact hl.1) dX11_peek_10 dX11_peek_13 dX11_peek_14 dX11_peek_16 dX11_peek_19 (fun x hx9 => (htab x hx9).elim) (by decide) (by decide) (by decide) (by decide) hlocks (fun t hvm9 hz9 hk9 => ⟨(), trivial, ⟨rfl, hP9.kept (fun k q hk => hk9 q.1 (vx_lt hP9 hk)), va_K.moved hvm9 hK9, hD9⟩, Nat.le_trans hS.1 hz9, fun q hq hA9 => (hk9 q (Nat.lt_of_lt_of_le hq hS.1)).trans (hS.2.1 q hq hA9)⟩) hS.2.2 (by decide) (by decide)
set_option maxHeartbeats 100000000 in
set_option maxRecDepth 100000 in
theorem cL_peek_2 (l : Launch) (hst : l.stackTraces = false) (dC : Nat → ClassId) (dI : Nat → Nat → Nat) (adK adV : Nat → Nat) (h0 h1 h2 h3 h4 h5 h6 : Nat) (sz : Nat) (x0 x1 x2 : Int32) (ix0 : iv x0 65536 2147483647) (ix1 : iv x1 0 2600) : Met l yL_peek (Cond.codeWith yL_peek cL_peek 4 (some .int) [(0, 9, 12, 19)] :: lw_G) ({ frames := 7, cells := 1, slots := 6, locals := 103 }) (va_Pc [.ref h0, .int x0, .ref h1] (fun U => U.heap.size = sz ∧ va_P (dC, dI) vwCl [(h0, .inr (11, [.ref h2, .ref h3, .ref h4, .ref h5, .ref h6, .int x1, .int x2]))] U.heap ∧ va_K (dC, dI) vwCl [] U ∧ va_D (fun _ => True) [(h0, .inr (11, [.ref h2, .ref h3, .ref h4, .ref h5, .ref h6, .int x1, .int x2]))] ∧ ev adK adV (va_A [(h0, .inr (11, [.ref h2, .ref h3, .ref h4, .ref h5, .ref h6, .int x1, .int x2]))] sz) U U.heap)) (va_Qi (fun (r : Int32) (u : Unit) => r = 1 ∧ True) (fun (u : Unit) (t : State) => va_P (dC, dI) vwCl [(h0, .inr (11, [.ref h2, .ref h3, .ref h4, .ref h5, .ref h6, .int x1, .int x2]))] t.heap ∧ va_K (dC, dI) vwCl [] t ∧ va_D (va_A [(h0, .inr (11, [.ref h2, .ref h3, .ref h4, .ref h5, .ref h6, .int x1, .int x2]))] sz) [(h0, .inr (11, [.ref h2, .ref h3, .ref h4, .ref h5, .ref h6, .int x1, .int x2]))]) (va_A [(h0, .inr (11, [.ref h2, .ref h3, .ref h4, .ref h5, .ref h6, .int x1, .int x2]))] sz)) 1 6 (va_A [(h0, .inr (11, [.ref h2, .ref h3, .ref h4, .ref h5, .ref h6, .int x1, .int x2]))] sz) := by
  refine va_MetW (cc := cL_peek) (maxL := 4) (ret := (some .int)) (by decide) rfl ?_
  intro p e s m args below meth c s₁ B hml hv
  obtain ⟨rfl, hsz, hP, hK, hD0, hE⟩ := hv
  have hx := B.exec
  have hb := B.bytes
  have hr := B.returns
  have hts0 := atoms_spec (ws := Cond.codeWith yL_peek cL_peek 4 (some .int) [(0, 9, 12, 19)] :: lw_G) B.pre
  have htab := vx_table (x := x) B (hts0 _ List.mem_cons_self)
  have hG : ∀ w ∈ lw_G, w.before _ s = true := fun w h => hts0 w (List.mem_cons_of_mem _ h)
  have hown : s.vm.findClass RL = some m.cls := findClass_of_methodNamed B.named
  have hlocks := B.notSynchronized
  subst hsz
  have hD := hD0.self (sz := s.heap.size)
  generalize hAe : va_A [(h0, .inr (11, [.ref h2, .ref h3, .ref h4, .ref h5, .ref h6, .int x1, .int x2]))] s.heap.size = A at hD hE ⊢
  have hA : ∀ q : Nat, s.heap.size ≤ q → A q := fun q h => by rw [← hAe]; exact Or.inr h
  have hS : va_S A s.heap s.heap [] := va_S.rf
  have hP : va_P (dC, dI) vwCl [(h0, .inr (11, [.ref h2, .ref h3, .ref h4, .ref h5, .ref h6, .int x1, .int x2]))] s.heap := hP
  have hl := lv_entry ([.ref h0, .int x0, .ref h1]) (n := 4) (Nat.le_of_ble_eq_true rfl)
  rw [lg_entry_eq]
  generalize (lg_sl ([.ref h0, .int x0, .ref h1]) ++ List.replicate (4 - (lg_sl ([.ref h0, .int x0, .ref h1])).length) Slot.unset).toArray = ls at hl ⊢
  have hl : lv_has ls 4 [(0, .ref h0), (1, .int x0), (2, .ref h1)] := hl
  generalize ([.ref h0, .int x0, .ref h1] : List Value).toArray = ar at hG ⊢
  refine wq (fun Q hQ => ?_)
  refine lv_aload_n hx hb dL_peek_0 rfl (lv_at hl 2 rfl) ?_
  refine lv_iconst (v := 0) hx hb dL_peek_1 (by decide) ?_
  refine lv_aload_n hx hb dL_peek_2 rfl (lv_at hl 0 rfl) ?_
  refine lv_iload_n hx hb dL_peek_3 rfl (lv_at hl 1 rfl) ?_
  obtain ⟨hPc, hDc, hFc⟩ := nv_sub3 (wc := [(h0, .inr (11, [.ref h2, .ref h3, .ref h4, .ref h5, .ref h6, .int x1, .int x2]))]) hP hD hS hA [0] (by decide) rfl
  have hKc := hK.sub (tys' := []) [] rfl
  refine vx_calli (vx_runV (As := [.int x0]) (rest := [.int 0, .ref h1]) ⟨hx, hb, hml, hown, hG⟩ (cX11_peek_2 l hst dC dI adK adV h0 h2 h3 h4 h5 h6 s.heap.size x0 x1 x2 ix0 ix1) (cwV 1 hG (gV wd_1153 wd_1154 wd_1155 wd_1 wd_1156) rfl rfl rfl (by decide +kernel) ⟨Nat.le_of_ble_eq_true rfl, Nat.le_of_ble_eq_true rfl⟩) ⟨fun a U g mk q => by obtain ⟨q0, q1, qP, qK, qD, qE⟩ := q; exact ⟨q0, q1, qP, va_K.moved (u := U) (U := U.calling g mk a) (Vm.Alike.refl U.vm) qK, qD, qE.same rfl⟩, va_recv hKc hPc (ci := 11) (q0 := 0) rfl rfl, fun U hU hW => ⟨rfl, by rw [hU], by rw [hU]; exact hPc, va_K.moved hW.alike hKc, hDc.weaken (fun _ _ _ _ => trivial), by rw [hU]; exact ((hE.kept hS.2.1).narrow hFc).warm hW⟩⟩ rfl rfl hl.1 rfl (lv_room (Nat.le_of_ble_eq_true rfl)) dL_peek_4 ⟨by decide, by decide⟩) hS (fun q _ h => hFc q h) hFc (fun q _ h => hFc q h) (fun E9 ce q1 u9 t H1 locs ht hvm hpx hB hz1 hk1 hS hce hcv hcl => ?_) (fun r u t H1 locs ht hvm hw hB hz1 hk1 hS => hw.elim)
  obtain ⟨rfl, hP1, hK1, hD1⟩ := hB
  rw [ht] at hP1
  have hK1 := va_K.moved hvm.symm hK1
  obtain ⟨hP, hD⟩ := nv_join (wf := [(h0, .inr (11, [.ref h2, .ref h3, .ref h4, .ref h5, .ref h6, .int x1, .int x2]))]) hP hD [0] [] rfl rfl (by decide) (by decide) hk1 hFc hP1 hD1 rfl
  have hK := (hK.sub (tys' := []) [] rfl).app hK1
  generalize H1 = H at hP hS hce ⊢
  have hK : va_K (dC, dI) vwCl [] s := hK
  refine vx_widen (k := 1) (n := 6) (by decide) (by decide) ?_
  refine vx_catch (name := "java/lang/IndexOutOfBoundsException") hown [] { startPc := 0, endPc := 9, handlerPc := 12, catchType := 19 } [] (by rw [htab]; rfl) (fun z hz => nomatch hz) (by decide) (by decide) (hG _ wd_1121) (evC1 hE) hce hcv hcl ?_
  refine lv_astore_n (lv' := [(3, .ref q1), (0, .ref h0), (1, .int x0), (2, .ref h1)]) hx hb dL_peek_12 rfl hl (by decide) rfl (fun ls hl => ?_)
  refine lv_iconst (v := 1) hx hb dL_peek_13 (by decide) ?_
  rw [hQ]
  obtain ⟨hP9, hD9⟩ := nv_sub2 (wc := [(h0, .inr (11, [.ref h2, .ref h3, .ref h4, .ref h5, .ref h6, .int x1, .int x2]))]) hP hD [0] (by decide) rfl
  have hK9 := hK.sub (tys' := []) [] rfl
  refine W.widen (k := 1) (n := 6) (by decide) (by decide) ?_
  exact W.iret (v := 1) hx hb hr (fun t ht hW => ⟨⟨1, (), rfl, ⟨rfl, trivial⟩, by rw [ht]; exact hP9, va_K.moved hW.alike hK9, hD9⟩, hS.F ht⟩) hS.2.2 dL_peek_14
set_option maxHeartbeats 100000000 in
set_option maxRecDepth 100000 in
theorem cX1_lookByte_1 (l : Launch) (dC : Nat → ClassId) (dI : Nat → Nat → Nat) (h0 h1 h2 h3 h4 h5 h6 : Nat) (y0 y1 y2 : ClassId) (sz : Nat) (x0 x1 x2 x3 x4 x5 x6 x7 x8 x9 x10 x11 x12 x13 x14 x15 : Int32) (f0 f1 f2 : Nat → Int32) (ix4 : iv x4 0 1) : Met l yX1_lookByte (Cond.code yX1_lookByte cX1_lookByte 4 (some .int) :: lw_G) ({ frames := 2, cells := 0, slots := 0, locals := 42 }) (va_Pc [.ref h0, .int x0] (fun U => U.heap.size = sz ∧ va_P (dC, dI) vwCl [(h0, .inr (1, [.ref h1, .ref h2, .ref h3, .ref h4])), (h1, .inl (y0, 32768, .inl f0)), (h4, .inr (9, [.ref h5, .ref h6, .int x1, .int x2, .int x3, .int x4])), (h6, .inl (y1, 3, .inl f1)), (h5, .inl (y2, 3, .inl f2)), (h3, .inr (5, [.int x5, .int x6, .int x7, .int x8, .int x9, .int x10])), (h2, .inr (7, [.int x11, .int x12, .int x13, .int x14, .int x15]))] U.heap ∧ va_K (dC, dI) vwCl [(y0, .int), (y1, .int), (y2, .int)] U ∧ va_D (fun _ => True) [(h0, .inr (1, [.ref h1, .ref h2, .ref h3, .ref h4])), (h1, .inl (y0, 32768, .inl f0)), (h4, .inr (9, [.ref h5, .ref h6, .int x1, .int x2, .int x3, .int x4])), (h6, .inl (y1, 3, .inl f1)), (h5, .inl (y2, 3, .inl f2)), (h3, .inr (5, [.int x5, .int x6, .int x7, .int x8, .int x9, .int x10])), (h2, .inr (7, [.int x11, .int x12, .int x13, .int x14, .int x15]))])) (va_Qi (fun (r : Int32) (u : Unit) => iv r (-8388608) 8388607 ∧ True) (fun (u : Unit) (t : State) => va_P (dC, dI) vwCl [(h0, .inr (1, [.ref h1, .ref h2, .ref h3, .ref h4])), (h1, .inl (y0, 32768, .inl f0)), (h4, .inr (9, [.ref h5, .ref h6, .int x1, .int x2, .int x3, .int x4])), (h6, .inl (y1, 3, .inl f1)), (h5, .inl (y2, 3, .inl f2)), (h3, .inr (5, [.int x5, .int x6, .int x7, .int x8, .int x9, .int x10])), (h2, .inr (7, [.int x11, .int x12, .int x13, .int x14, .int x15]))] t.heap ∧ va_K (dC, dI) vwCl [(y0, .int), (y1, .int), (y2, .int)] t ∧ va_D (va_A [(h0, .inr (1, [.ref h1, .ref h2, .ref h3, .ref h4])), (h1, .inl (y0, 32768, .inl f0)), (h4, .inr (9, [.ref h5, .ref h6, .int x1, .int x2, .int x3, .int x4])), (h6, .inl (y1, 3, .inl f1)), (h5, .inl (y2, 3, .inl f2)), (h3, .inr (5, [.int x5, .int x6, .int x7, .int x8, .int x9, .int x10])), (h2, .inr (7, [.int x11, .int x12, .int x13, .int x14, .int x15]))] sz) [(h0, .inr (1, [.ref h1, .ref h2, .ref h3, .ref h4])), (h1, .inl (y0, 32768, .inl f0)), (h4, .inr (9, [.ref h5, .ref h6, .int x1, .int x2, .int x3, .int x4])), (h6, .inl (y1, 3, .inl f1)), (h5, .inl (y2, 3, .inl f2)), (h3, .inr (5, [.int x5, .int x6, .int x7, .int x8, .int x9, .int x10])), (h2, .inr (7, [.int x11, .int x12, .int x13, .int x14, .int x15]))]) (va_A [(h0, .inr (1, [.ref h1, .ref h2, .ref h3, .ref h4])), (h1, .inl (y0, 32768, .inl f0)), (h4, .inr (9, [.ref h5, .ref h6, .int x1, .int x2, .int x3, .int x4])), (h6, .inl (y1, 3, .inl f1)), (h5, .inl (y2, 3, .inl f2)), (h3, .inr (5, [.int x5, .int x6, .int x7, .int x8, .int x9, .int x10])), (h2, .inr (7, [.int x11, .int x12, .int x13, .int x14, .int x15]))] sz)) 0 0 (va_A [(h0, .inr (1, [.ref h1, .ref h2, .ref h3, .ref h4])), (h1, .inl (y0, 32768, .inl f0)), (h4, .inr (9, [.ref h5, .ref h6, .int x1, .int x2, .int x3, .int x4])), (h6, .inl (y1, 3, .inl f1)), (h5, .inl (y2, 3, .inl f2)), (h3, .inr (5, [.int x5, .int x6, .int x7, .int x8, .int x9, .int x10])), (h2, .inr (7, [.int x11, .int x12, .int x13, .int x14, .int x15]))] sz) := by
  refine Met.ofW (cc := cX1_lookByte) (maxL := 4) (ret := (some .int)) (by decide) rfl ?_
  intro p e s m args below meth c s₁ B hml hv
  obtain ⟨rfl, hsz, hP, hK, hD0⟩ := hv
  have hx := B.exec
  have hb := B.bytes
  have hr := B.returns
  have hts0 := atoms_spec (ws := Cond.code yX1_lookByte cX1_lookByte 4 (some .int) :: lw_G) B.pre
  have hG : ∀ w ∈ lw_G, w.before _ s = true := fun w h => hts0 w (List.mem_cons_of_mem _ h)
  have hown : s.vm.findClass RX1 = some m.cls := findClass_of_methodNamed B.named
  have hlocks := B.notSynchronized
  subst hsz
  have hD := hD0.self (sz := s.heap.size)
  generalize hAe : va_A [(h0, .inr (1, [.ref h1, .ref h2, .ref h3, .ref h4])), (h1, .inl (y0, 32768, .inl f0)), (h4, .inr (9, [.ref h5, .ref h6, .int x1, .int x2, .int x3, .int x4])), (h6, .inl (y1, 3, .inl f1)), (h5, .inl (y2, 3, .inl f2)), (h3, .inr (5, [.int x5, .int x6, .int x7, .int x8, .int x9, .int x10])), (h2, .inr (7, [.int x11, .int x12, .int x13, .int x14, .int x15]))] s.heap.size = A at hD ⊢
  have hA : ∀ q : Nat, s.heap.size ≤ q → A q := fun q h => by rw [← hAe]; exact Or.inr h
  have hS : va_S A s.heap s.heap [] := va_S.rf
  have hP : va_P (dC, dI) vwCl [(h0, .inr (1, [.ref h1, .ref h2, .ref h3, .ref h4])), (h1, .inl (y0, 32768, .inl f0)), (h4, .inr (9, [.ref h5, .ref h6, .int x1, .int x2, .int x3, .int x4])), (h6, .inl (y1, 3, .inl f1)), (h5, .inl (y2, 3, .inl f2)), (h3, .inr (5, [.int x5, .int x6, .int x7, .int x8, .int x9, .int x10])), (h2, .inr (7, [.int x11, .int x12, .int x13, .int x14, .int x15]))] s.heap := hP
  have hl := lv_entry ([.ref h0, .int x0]) (n := 4) (Nat.le_of_ble_eq_true rfl)
  rw [lg_entry_eq]
  generalize (lg_sl ([.ref h0, .int x0]) ++ List.replicate (4 - (lg_sl ([.ref h0, .int x0])).length) Slot.unset).toArray = ls at hl ⊢
  have hl : lv_has ls 4 [(0, .ref h0), (1, .int x0)] := hl
  generalize ([.ref h0, .int x0] : List Value).toArray = ar at hG ⊢
  refine wq (fun Q hQ => ?_)
  refine lv_iload_n hx hb dX1_lookByte_0 rfl (lv_at hl 1 rfl) ?_
  refine lv_ldc hx hb hown (hG _ wd_719) dX1_lookByte_1 ?_
  refine lv_iand hx hb dX1_lookByte_3 ?_
  refine lv_topi (fun v1 ev1 => ?_)
  have iv1 : iv v1 0 65534 := iv_eq ev1 (iv_and (x := x0) (iv_w (by decide : iv 65534 65534 65534) (by decide) (by decide) : iv 65534 0 65534))
  refine lv_istore_n (lv' := [(2, .int v1), (0, .ref h0), (1, .int x0)]) hx hb dX1_lookByte_4 rfl hl (by decide) rfl (fun ls hl => ?_)
  refine lv_iload_n hx hb dX1_lookByte_5 rfl (lv_at hl 0 rfl) ?_
  refine lv_sipush (v := 512) hx hb dX1_lookByte_6 (by decide) ?_
  refine jcut (a := ∀ (b9 : Int32) (H : Heap) (locs : List Loc) (hK : va_K (dC, dI) vwCl [(y0, .int), (y1, .int), (y2, .int)] s) (hP : va_P (dC, dI) vwCl [(h0, .inr (1, [.ref h1, .ref h2, .ref h3, .ref h4])), (h1, .inl (y0, 32768, .inl f0)), (h4, .inr (9, [.ref h5, .ref h6, .int x1, .int x2, .int x3, .int x4])), (h6, .inl (y1, 3, .inl f1)), (h5, .inl (y2, 3, .inl f2)), (h3, .inr (5, [.int x5, .int x6, .int x7, .int x8, .int x9, .int x10])), (h2, .inr (7, [.int x11, .int x12, .int x13, .int x14, .int x15]))] H) (hD : va_D A [(h0, .inr (1, [.ref h1, .ref h2, .ref h3, .ref h4])), (h1, .inl (y0, 32768, .inl f0)), (h4, .inr (9, [.ref h5, .ref h6, .int x1, .int x2, .int x3, .int x4])), (h6, .inl (y1, 3, .inl f1)), (h5, .inl (y2, 3, .inl f2)), (h3, .inr (5, [.int x5, .int x6, .int x7, .int x8, .int x9, .int x10])), (h2, .inr (7, [.int x11, .int x12, .int x13, .int x14, .int x15]))]) (hS : va_S A s.heap H locs) (ls : Array Slot) (hl : lv_has ls 4 [(1, .int x0)]), W p l e (headSpec (Cond.code yX1_lookByte cX1_lookByte 4 (some .int) :: lw_G) ({ frames := 2, cells := 0, slots := 0, locals := 42 })).room s m ar below meth c H locs 0 0 Q (F0 m 28 ls [.int b9])) ?_ (fun j10 => ?_)
  · skip
    intro b9 H locs hK hP hD hS ls hl
    refine lv_istore_n (lv' := [(3, .int b9), (1, .int x0)]) hx hb dX1_lookByte_28 rfl hl (by decide) rfl (fun ls hl => ?_)
    refine lv_iload_n hx hb dX1_lookByte_29 rfl (lv_at hl 1 rfl) ?_
    refine lv_iconst (v := 1) hx hb dX1_lookByte_30 (by decide) ?_
    refine lv_iand hx hb dX1_lookByte_31 ?_
    refine lv_topi (fun v11 ev11 => ?_)
    have iv11 : iv v11 0 1 := iv_eq ev11 (iv_and (x := x0) (iv_w (by decide : iv 1 1 1) (by decide) (by decide) : iv 1 0 1))
    refine jcut (a := ∀ (b16 : Int32) (ib16 : iv b16 (-8388608) 8388607) (H : Heap) (locs : List Loc) (hK : va_K (dC, dI) vwCl [(y0, .int), (y1, .int), (y2, .int)] s) (hP : va_P (dC, dI) vwCl [(h0, .inr (1, [.ref h1, .ref h2, .ref h3, .ref h4])), (h1, .inl (y0, 32768, .inl f0)), (h4, .inr (9, [.ref h5, .ref h6, .int x1, .int x2, .int x3, .int x4])), (h6, .inl (y1, 3, .inl f1)), (h5, .inl (y2, 3, .inl f2)), (h3, .inr (5, [.int x5, .int x6, .int x7, .int x8, .int x9, .int x10])), (h2, .inr (7, [.int x11, .int x12, .int x13, .int x14, .int x15]))] H) (hD : va_D A [(h0, .inr (1, [.ref h1, .ref h2, .ref h3, .ref h4])), (h1, .inl (y0, 32768, .inl f0)), (h4, .inr (9, [.ref h5, .ref h6, .int x1, .int x2, .int x3, .int x4])), (h6, .inl (y1, 3, .inl f1)), (h5, .inl (y2, 3, .inl f2)), (h3, .inr (5, [.int x5, .int x6, .int x7, .int x8, .int x9, .int x10])), (h2, .inr (7, [.int x11, .int x12, .int x13, .int x14, .int x15]))]) (hS : va_S A s.heap H locs) (ls : Array Slot) (hl : lv_has ls 4 []), W p l e (headSpec (Cond.code yX1_lookByte cX1_lookByte 4 (some .int) :: lw_G) ({ frames := 2, cells := 0, slots := 0, locals := 42 })).room s m ar below meth c H locs 0 0 Q (F0 m 47 ls [.int b16])) ?_ (fun j17 => ?_)
    · skip
      intro b16 ib16 H locs hK hP hD hS ls hl
      rw [hQ]
      obtain ⟨hP9, hD9⟩ := nv_sub2 (wc := [(h0, .inr (1, [.ref h1, .ref h2, .ref h3, .ref h4])), (h1, .inl (y0, 32768, .inl f0)), (h4, .inr (9, [.ref h5, .ref h6, .int x1, .int x2, .int x3, .int x4])), (h6, .inl (y1, 3, .inl f1)), (h5, .inl (y2, 3, .inl f2)), (h3, .inr (5, [.int x5, .int x6, .int x7, .int x8, .int x9, .int x10])), (h2, .inr (7, [.int x11, .int x12, .int x13, .int x14, .int x15]))]) hP hD [0, 1, 2, 3, 4, 5, 6] (by decide) rfl
      have hK9 := hK.sub (tys' := [(y0, .int), (y1, .int), (y2, .int)]) [0, 1, 2] rfl
      exact W.iret (v := b16) hx hb hr (fun t ht hW => ⟨⟨b16, (), rfl, ⟨iv_w ib16 (by decide) (by decide), trivial⟩, by rw [ht]; exact hP9, va_K.moved hW.alike hK9, hD9⟩, hS.F ht⟩) hS.2.2 dX1_lookByte_47
    refine lv_if_ne (tgt := 43) hx hb dX1_lookByte_32 (by decide) (fun c12 => ?_) (fun c12 => ?_)
    · skip
      have j18 : iv v11 1 1 := iv_neLo iv11 (by decide : iv 0 0 0) c12 (by decide)
      refine lv_iload_n hx hb dX1_lookByte_43 rfl (lv_at hl 0 rfl) ?_
      refine lv_bipush (v := 8) hx hb dX1_lookByte_44 (by decide) ?_
      refine lv_ishr hx hb dX1_lookByte_46 ?_
      refine lv_topi (fun v19 ev19 => ?_)
      have iv19 : iv v19 (-8388608) 8388607 := iv_eq ev19 (iv_shr 8 (by decide) (iv_any b9) (by decide) (by decide))
      exact j17 v19 iv19 _ _ hK hP hD hS ls (lv_sub hl [] rfl)
    · skip
      subst c12
      refine lv_iload_n hx hb dX1_lookByte_35 rfl (lv_at hl 0 rfl) ?_
      refine lv_sipush (v := 255) hx hb dX1_lookByte_36 (by decide) ?_
      refine lv_iand hx hb dX1_lookByte_39 ?_
      refine lv_topi (fun v20 ev20 => ?_)
      have iv20 : iv v20 0 255 := iv_eq ev20 (iv_and (x := b9) (iv_w (by decide : iv 255 255 255) (by decide) (by decide) : iv 255 0 255))
      refine lv_goto (tgt := 47) hx hb dX1_lookByte_40 (by decide) ?_
      exact j17 v20 (iv_w iv20 (by decide) (by decide)) _ _ hK hP hD hS ls (lv_sub hl [] rfl)
  refine lv_icmp_ge (tgt := 20) hx hb dX1_lookByte_9 (by decide) (fun c2 => ?_) (fun c2 => ?_)
  · skip
    have j21 : iv v1 512 65534 := iv_leR (by decide : iv 512 512 512) iv1 c2 (by decide)
    refine lv_aload_n hx hb dX1_lookByte_20 rfl (lv_at hl 1 rfl) ?_
    refine va_get (D := (dC, dI)) (ci := 1) (v := .ref h1) (C := RX1) (T := TX1) (N := 4) hx hb hG inGX1 hown hK hP 0 rfl rfl 0 (by decide) (hG _ wd_114) (fun _ h9 => h9) rfl dX1_lookByte_21 ?_
    refine lv_iload_n hx hb dX1_lookByte_24 rfl (lv_at hl 0 rfl) ?_
    refine lv_iconst (v := 1) hx hb dX1_lookByte_25 (by decide) ?_
    refine lv_ishr hx hb dX1_lookByte_26 ?_
    refine lv_topi (fun v22 ev22 => ?_)
    have iv22 : iv v22 256 32767 := iv_eq ev22 (iv_shr 1 (by decide) j21 (by decide) (by decide))
    refine va_iald hx hb hK hP 1 0 rfl rfl (iv_in iv22 (by decide) (by decide) : vp_in v22 32768) dX1_lookByte_27 ?_
    refine lv_topi (fun v23 ev23 => ?_)
    exact j10 v23 _ _ hK hP hD hS ls (lv_sub hl [2] rfl)
  · skip
    have j24 : iv v1 0 511 := iv_nleR (by decide : iv 512 512 512) iv1 c2 (by decide)
    refine lv_aload_n hx hb dX1_lookByte_12 rfl (lv_at hl 1 rfl) ?_
    refine lv_iload_n hx hb dX1_lookByte_13 rfl (lv_at hl 0 rfl) ?_
    obtain ⟨hPc, hDc, hFc⟩ := nv_sub3 (wc := [(h0, .inr (1, [.ref h1, .ref h2, .ref h3, .ref h4])), (h4, .inr (9, [.ref h5, .ref h6, .int x1, .int x2, .int x3, .int x4])), (h6, .inl (y1, 3, .inl f1)), (h5, .inl (y2, 3, .inl f2)), (h3, .inr (5, [.int x5, .int x6, .int x7, .int x8, .int x9, .int x10])), (h2, .inr (7, [.int x11, .int x12, .int x13, .int x14, .int x15]))]) hP hD hS hA [0, 2, 3, 4, 5, 6] (by decide) rfl
    have hKc := hK.sub (tys' := [(y1, .int), (y2, .int)]) [1, 2] rfl
    refine va_calli (va_runV (As := [.int v1]) (rest := []) ⟨hx, hb, hml, hown, hG⟩ (cX1_thingWord_1 l dC dI h0 h1 h2 h3 h4 h5 h6 y1 y2 s.heap.size v1 x1 x2 x3 x4 x5 x6 x7 x8 x9 x10 x11 x12 x13 x14 x15 f1 f2 ix4) (cwV 1 hG (gV wd_720 wd_722 wp_27 wd_2 wd_723) rfl rfl rfl (by decide +kernel) ⟨Nat.le_of_ble_eq_true rfl, Nat.le_of_ble_eq_true rfl⟩) ⟨fun a U g mk q => by obtain ⟨q0, q1, qP, qK, qD⟩ := q; exact ⟨q0, q1, qP, va_K.moved (u := U) (U := U.calling g mk a) (Vm.Alike.refl U.vm) qK, qD⟩, va_recv hKc hPc (ci := 1) (q0 := 0) rfl rfl, fun U hU hW => ⟨rfl, by rw [hU], by rw [hU]; exact hPc, va_K.moved hW.alike hKc, hDc.weaken (fun _ _ _ _ => trivial)⟩⟩ rfl rfl hl.1 rfl (lv_room (Nat.le_of_ble_eq_true rfl)) dX1_lookByte_14 ⟨by decide, by decide⟩) hS (fun q _ h => hFc q h) hFc (fun r25 u26 t H1 locs ht hvm hw hB hz1 hk1 hS => ?_)
    obtain ⟨hP1, hK1, hD1⟩ := hB
    rw [ht] at hP1
    have hK1 := va_K.moved hvm.symm hK1
    obtain ⟨hP, hD⟩ := nv_join (wf := [(h1, .inl (y0, 32768, .inl f0)), (h0, .inr (1, [.ref h1, .ref h2, .ref h3, .ref h4])), (h4, .inr (9, [.ref h5, .ref h6, .int x1, .int x2, .int x3, .int x4])), (h6, .inl (y1, 3, .inl f1)), (h5, .inl (y2, 3, .inl f2)), (h3, .inr (5, [.int x5, .int x6, .int x7, .int x8, .int x9, .int x10])), (h2, .inr (7, [.int x11, .int x12, .int x13, .int x14, .int x15]))]) hP hD [0, 2, 3, 4, 5, 6] [1] rfl rfl (by decide) (by decide) hk1 hFc hP1 hD1 rfl
    have hK := (hK.sub (tys' := [(y0, .int)]) [0] rfl).app hK1
    generalize H1 = H at hP hS ⊢
    have hK : va_K (dC, dI) vwCl [(y0, .int), (y1, .int), (y2, .int)] s := hK
    refine lv_goto (tgt := 28) hx hb dX1_lookByte_17 (by decide) ?_
    exact j10 r25 _ _ hK (hP.sub (ws' := _) [1, 0, 2, 3, 4, 5, 6] rfl) (hD.sub (ws' := _) [1, 0, 2, 3, 4, 5, 6] (by decide) rfl) hS ls (lv_sub hl [2] rfl)
set_option maxHeartbeats 100000000 in
set_option maxRecDepth 100000 in
theorem cX11_peek_3 (l : Launch) (dC : Nat → ClassId) (dI : Nat → Nat → Nat) (h0 h1 h2 h3 h4 h5 h6 h7 h8 h9 h10 h11 : Nat) (y0 y1 y2 : ClassId) (sz : Nat) (x0 x1 x2 x3 x4 x5 x6 x7 x8 x9 x10 x11 x12 x13 x14 x15 x16 x17 : Int32) (f0 f1 f2 : Nat → Int32) (ix0 : iv x0 0 65535) (ix1 : iv x1 0 2600) (ix6 : iv x6 0 1) : Met l yX11_peek (Cond.code yX11_peek cX11_peek 2 (some .int) :: lw_G) ({ frames := 3, cells := 0, slots := 0, locals := 65 }) (va_Pc [.ref h0, .int x0] (fun U => U.heap.size = sz ∧ va_P (dC, dI) vwCl [(h0, .inr (11, [.ref h1, .ref h2, .ref h3, .ref h4, .ref h5, .int x1, .int x2])), (h2, .inr (1, [.ref h6, .ref h7, .ref h8, .ref h9])), (h6, .inl (y0, 32768, .inl f0)), (h9, .inr (9, [.ref h10, .ref h11, .int x3, .int x4, .int x5, .int x6])), (h11, .inl (y1, 3, .inl f1)), (h10, .inl (y2, 3, .inl f2)), (h8, .inr (5, [.int x7, .int x8, .int x9, .int x10, .int x11, .int x12])), (h7, .inr (7, [.int x13, .int x14, .int x15, .int x16, .int x17]))] U.heap ∧ va_K (dC, dI) vwCl [(y0, .int), (y1, .int), (y2, .int)] U ∧ va_D (fun _ => True) [(h0, .inr (11, [.ref h1, .ref h2, .ref h3, .ref h4, .ref h5, .int x1, .int x2])), (h2, .inr (1, [.ref h6, .ref h7, .ref h8, .ref h9])), (h6, .inl (y0, 32768, .inl f0)), (h9, .inr (9, [.ref h10, .ref h11, .int x3, .int x4, .int x5, .int x6])), (h11, .inl (y1, 3, .inl f1)), (h10, .inl (y2, 3, .inl f2)), (h8, .inr (5, [.int x7, .int x8, .int x9, .int x10, .int x11, .int x12])), (h7, .inr (7, [.int x13, .int x14, .int x15, .int x16, .int x17]))])) (va_Qi (fun (r : Int32) (u : Unit) => iv r (-8388608) 8388607 ∧ True) (fun (u : Unit) (t : State) => va_P (dC, dI) vwCl [(h0, .inr (11, [.ref h1, .ref h2, .ref h3, .ref h4, .ref h5, .int x1, .int x2])), (h2, .inr (1, [.ref h6, .ref h7, .ref h8, .ref h9])), (h6, .inl (y0, 32768, .inl f0)), (h9, .inr (9, [.ref h10, .ref h11, .int x3, .int x4, .int x5, .int x6])), (h11, .inl (y1, 3, .inl f1)), (h10, .inl (y2, 3, .inl f2)), (h8, .inr (5, [.int x7, .int x8, .int x9, .int x10, .int x11, .int x12])), (h7, .inr (7, [.int x13, .int x14, .int x15, .int x16, .int x17]))] t.heap ∧ va_K (dC, dI) vwCl [(y0, .int), (y1, .int), (y2, .int)] t ∧ va_D (va_A [(h0, .inr (11, [.ref h1, .ref h2, .ref h3, .ref h4, .ref h5, .int x1, .int x2])), (h2, .inr (1, [.ref h6, .ref h7, .ref h8, .ref h9])), (h6, .inl (y0, 32768, .inl f0)), (h9, .inr (9, [.ref h10, .ref h11, .int x3, .int x4, .int x5, .int x6])), (h11, .inl (y1, 3, .inl f1)), (h10, .inl (y2, 3, .inl f2)), (h8, .inr (5, [.int x7, .int x8, .int x9, .int x10, .int x11, .int x12])), (h7, .inr (7, [.int x13, .int x14, .int x15, .int x16, .int x17]))] sz) [(h0, .inr (11, [.ref h1, .ref h2, .ref h3, .ref h4, .ref h5, .int x1, .int x2])), (h2, .inr (1, [.ref h6, .ref h7, .ref h8, .ref h9])), (h6, .inl (y0, 32768, .inl f0)), (h9, .inr (9, [.ref h10, .ref h11, .int x3, .int x4, .int x5, .int x6])), (h11, .inl (y1, 3, .inl f1)), (h10, .inl (y2, 3, .inl f2)), (h8, .inr (5, [.int x7, .int x8, .int x9, .int x10, .int x11, .int x12])), (h7, .inr (7, [.int x13, .int x14, .int x15, .int x16, .int x17]))]) (va_A [(h0, .inr (11, [.ref h1, .ref h2, .ref h3, .ref h4, .ref h5, .int x1, .int x2])), (h2, .inr (1, [.ref h6, .ref h7, .ref h8, .ref h9])), (h6, .inl (y0, 32768, .inl f0)), (h9, .inr (9, [.ref h10, .ref h11, .int x3, .int x4, .int x5, .int x6])), (h11, .inl (y1, 3, .inl f1)), (h10, .inl (y2, 3, .inl f2)), (h8, .inr (5, [.int x7, .int x8, .int x9, .int x10, .int x11, .int x12])), (h7, .inr (7, [.int x13, .int x14, .int x15, .int x16, .int x17]))] sz)) 0 0 (va_A [(h0, .inr (11, [.ref h1, .ref h2, .ref h3, .ref h4, .ref h5, .int x1, .int x2])), (h2, .inr (1, [.ref h6, .ref h7, .ref h8, .ref h9])), (h6, .inl (y0, 32768, .inl f0)), (h9, .inr (9, [.ref h10, .ref h11, .int x3, .int x4, .int x5, .int x6])), (h11, .inl (y1, 3, .inl f1)), (h10, .inl (y2, 3, .inl f2)), (h8, .inr (5, [.int x7, .int x8, .int x9, .int x10, .int x11, .int x12])), (h7, .inr (7, [.int x13, .int x14, .int x15, .int x16, .int x17]))] sz) := by
  refine Met.ofW (cc := cX11_peek) (maxL := 2) (ret := (some .int)) (by decide) rfl ?_
  intro p e s m args below meth c s₁ B hml hv
  obtain ⟨rfl, hsz, hP, hK, hD0⟩ := hv
  have hx := B.exec
  have hb := B.bytes
  have hr := B.returns
  have hts0 := atoms_spec (ws := Cond.code yX11_peek cX11_peek 2 (some .int) :: lw_G) B.pre
  have hG : ∀ w ∈ lw_G, w.before _ s = true := fun w h => hts0 w (List.mem_cons_of_mem _ h)
  have hown : s.vm.findClass RX11 = some m.cls := findClass_of_methodNamed B.named
  have hlocks := B.notSynchronized
  subst hsz
  have hD := hD0.self (sz := s.heap.size)
  generalize hAe : va_A [(h0, .inr (11, [.ref h1, .ref h2, .ref h3, .ref h4, .ref h5, .int x1, .int x2])), (h2, .inr (1, [.ref h6, .ref h7, .ref h8, .ref h9])), (h6, .inl (y0, 32768, .inl f0)), (h9, .inr (9, [.ref h10, .ref h11, .int x3, .int x4, .int x5, .int x6])), (h11, .inl (y1, 3, .inl f1)), (h10, .inl (y2, 3, .inl f2)), (h8, .inr (5, [.int x7, .int x8, .int x9, .int x10, .int x11, .int x12])), (h7, .inr (7, [.int x13, .int x14, .int x15, .int x16, .int x17]))] s.heap.size = A at hD ⊢
  have hA : ∀ q : Nat, s.heap.size ≤ q → A q := fun q h => by rw [← hAe]; exact Or.inr h
  have hS : va_S A s.heap s.heap [] := va_S.rf
  have hP : va_P (dC, dI) vwCl [(h0, .inr (11, [.ref h1, .ref h2, .ref h3, .ref h4, .ref h5, .int x1, .int x2])), (h2, .inr (1, [.ref h6, .ref h7, .ref h8, .ref h9])), (h6, .inl (y0, 32768, .inl f0)), (h9, .inr (9, [.ref h10, .ref h11, .int x3, .int x4, .int x5, .int x6])), (h11, .inl (y1, 3, .inl f1)), (h10, .inl (y2, 3, .inl f2)), (h8, .inr (5, [.int x7, .int x8, .int x9, .int x10, .int x11, .int x12])), (h7, .inr (7, [.int x13, .int x14, .int x15, .int x16, .int x17]))] s.heap := hP
  have hl := lv_entry ([.ref h0, .int x0]) (n := 2) (Nat.le_of_ble_eq_true rfl)
  rw [lg_entry_eq]
  generalize (lg_sl ([.ref h0, .int x0]) ++ List.replicate (2 - (lg_sl ([.ref h0, .int x0])).length) Slot.unset).toArray = ls at hl ⊢
  have hl : lv_has ls 2 [(0, .ref h0), (1, .int x0)] := hl
  generalize ([.ref h0, .int x0] : List Value).toArray = ar at hG ⊢
  refine wq (fun Q hQ => ?_)
  refine lv_iload_n hx hb dX11_peek_0 rfl (lv_at hl 1 rfl) ?_
  refine lv_if_lt (tgt := 10) hx hb dX11_peek_1 (by decide) (fun c => absurd c (iv_nlt ix0 (by decide : iv 0 0 0) (by decide))) (fun _ => ?_)
  refine lv_iload_n hx hb dX11_peek_4 rfl (lv_at hl 1 rfl) ?_
  refine lv_ldc hx hb hown (hG _ wd_1157) dX11_peek_5 ?_
  refine lv_icmp_lt (tgt := 20) hx hb dX11_peek_7 (by decide) (fun _ => ?_) (fun c => absurd (iv_lt ix0 (by decide : iv 65536 65536 65536) (by decide)) c)
  refine lv_aload_n hx hb dX11_peek_20 rfl (lv_at hl 0 rfl) ?_
  refine va_get (D := (dC, dI)) (ci := 11) (v := .ref h2) (C := RX11) (T := TX11) (N := 7) hx hb hG inGX11 hown hK hP 0 rfl rfl 1 (by decide) (hG _ wd_396) (fun _ h9 => h9) rfl dX11_peek_21 ?_
  refine lv_iload_n hx hb dX11_peek_24 rfl (lv_at hl 1 rfl) ?_
  obtain ⟨hPc, hDc, hFc⟩ := nv_sub3 (wc := [(h2, .inr (1, [.ref h6, .ref h7, .ref h8, .ref h9])), (h6, .inl (y0, 32768, .inl f0)), (h9, .inr (9, [.ref h10, .ref h11, .int x3, .int x4, .int x5, .int x6])), (h11, .inl (y1, 3, .inl f1)), (h10, .inl (y2, 3, .inl f2)), (h8, .inr (5, [.int x7, .int x8, .int x9, .int x10, .int x11, .int x12])), (h7, .inr (7, [.int x13, .int x14, .int x15, .int x16, .int x17]))]) hP hD hS hA [1, 2, 3, 4, 5, 6, 7] (by decide) rfl
  have hKc := hK.sub (tys' := [(y0, .int), (y1, .int), (y2, .int)]) [0, 1, 2] rfl
  refine va_calli (va_runV (As := [.int x0]) (rest := []) ⟨hx, hb, hml, hown, hG⟩ (cX1_lookByte_1 l dC dI h2 h6 h7 h8 h9 h10 h11 y0 y1 y2 s.heap.size x0 x3 x4 x5 x6 x7 x8 x9 x10 x11 x12 x13 x14 x15 x16 x17 f0 f1 f2 ix6) (cwV 1 hG (gV wd_1159 wd_1160 wd_1161 wd_2 wd_1162) rfl rfl rfl (by decide +kernel) ⟨Nat.le_of_ble_eq_true rfl, Nat.le_of_ble_eq_true rfl⟩) ⟨fun a U g mk q => by obtain ⟨q0, q1, qP, qK, qD⟩ := q; exact ⟨q0, q1, qP, va_K.moved (u := U) (U := U.calling g mk a) (Vm.Alike.refl U.vm) qK, qD⟩, va_recv hKc hPc (ci := 1) (q0 := 0) rfl rfl, fun U hU hW => ⟨rfl, by rw [hU], by rw [hU]; exact hPc, va_K.moved hW.alike hKc, hDc.weaken (fun _ _ _ _ => trivial)⟩⟩ rfl rfl hl.1 rfl (lv_room (Nat.le_of_ble_eq_true rfl)) dX11_peek_25 ⟨by decide, by decide⟩) hS (fun q _ h => hFc q h) hFc (fun r1 u2 t H1 locs ht hvm hw hB hz1 hk1 hS => ?_)
  have hw : iv r1 (-8388608) 8388607 ∧ True := hw
  obtain ⟨ir1, -⟩ := hw
  obtain ⟨hP1, hK1, hD1⟩ := hB
  rw [ht] at hP1
  have hK1 := va_K.moved hvm.symm hK1
  obtain ⟨hP, hD⟩ := nv_join (wf := [(h0, .inr (11, [.ref h1, .ref h2, .ref h3, .ref h4, .ref h5, .int x1, .int x2])), (h2, .inr (1, [.ref h6, .ref h7, .ref h8, .ref h9])), (h6, .inl (y0, 32768, .inl f0)), (h9, .inr (9, [.ref h10, .ref h11, .int x3, .int x4, .int x5, .int x6])), (h11, .inl (y1, 3, .inl f1)), (h10, .inl (y2, 3, .inl f2)), (h8, .inr (5, [.int x7, .int x8, .int x9, .int x10, .int x11, .int x12])), (h7, .inr (7, [.int x13, .int x14, .int x15, .int x16, .int x17]))]) hP hD [1, 2, 3, 4, 5, 6, 7] [0] rfl rfl (by decide) (by decide) hk1 hFc hP1 hD1 rfl
  have hK := (hK.sub (tys' := []) [] rfl).app hK1
  generalize H1 = H at hP hS ⊢
  have hK : va_K (dC, dI) vwCl [(y0, .int), (y1, .int), (y2, .int)] s := hK
  rw [hQ]
  obtain ⟨hP9, hD9⟩ := nv_sub2 (wc := [(h0, .inr (11, [.ref h1, .ref h2, .ref h3, .ref h4, .ref h5, .int x1, .int x2])), (h2, .inr (1, [.ref h6, .ref h7, .ref h8, .ref h9])), (h6, .inl (y0, 32768, .inl f0)), (h9, .inr (9, [.ref h10, .ref h11, .int x3, .int x4, .int x5, .int x6])), (h11, .inl (y1, 3, .inl f1)), (h10, .inl (y2, 3, .inl f2)), (h8, .inr (5, [.int x7, .int x8, .int x9, .int x10, .int x11, .int x12])), (h7, .inr (7, [.int x13, .int x14, .int x15, .int x16, .int x17]))]) hP hD [0, 1, 2, 3, 4, 5, 6, 7] (by decide) rfl
  have hK9 := hK.sub (tys' := [(y0, .int), (y1, .int), (y2, .int)]) [0, 1, 2] rfl
  exact W.iret (v := r1) hx hb hr (fun t ht hW => ⟨⟨r1, (), rfl, ⟨iv_w ir1 (by decide) (by decide), trivial⟩, by rw [ht]; exact hP9, va_K.moved hW.alike hK9, hD9⟩, hS.F ht⟩) hS.2.2 dX11_peek_28
set_option maxHeartbeats 100000000 in
set_option maxRecDepth 100000 in
theorem cL_peek_3 (l : Launch) (dC : Nat → ClassId) (dI : Nat → Nat → Nat) (h0 h1 h2 h3 h4 h5 h6 h7 h8 h9 h10 h11 h12 : Nat) (y0 y1 y2 y3 : ClassId) (sz : Nat) (x0 x1 x2 x3 x4 x5 x6 x7 x8 x9 x10 x11 x12 x13 x14 x15 x16 x17 : Int32) (f0 f1 f2 : Nat → Int32) (g0 : Nat → Int64) (ix0 : iv x0 0 65535) (ix1 : iv x1 0 2600) (ix6 : iv x6 0 1) : Met l yL_peek (Cond.codeWith yL_peek cL_peek 4 (some .int) [(0, 9, 12, 19)] :: lw_G) ({ frames := 4, cells := 0, slots := 0, locals := 86 }) (va_Pc [.ref h0, .int x0, .ref h1] (fun U => U.heap.size = sz ∧ va_P (dC, dI) vwCl [(h0, .inr (11, [.ref h2, .ref h3, .ref h4, .ref h5, .ref h6, .int x1, .int x2])), (h3, .inr (1, [.ref h7, .ref h8, .ref h9, .ref h10])), (h7, .inl (y0, 32768, .inl f0)), (h10, .inr (9, [.ref h11, .ref h12, .int x3, .int x4, .int x5, .int x6])), (h12, .inl (y1, 3, .inl f1)), (h11, .inl (y2, 3, .inl f2)), (h9, .inr (5, [.int x7, .int x8, .int x9, .int x10, .int x11, .int x12])), (h8, .inr (7, [.int x13, .int x14, .int x15, .int x16, .int x17])), (h1, .inl (y3, 1, .inr (.inl g0)))] U.heap ∧ va_K (dC, dI) vwCl [(y0, .int), (y1, .int), (y2, .int), (y3, .long)] U ∧ va_D (fun _ => True) [(h0, .inr (11, [.ref h2, .ref h3, .ref h4, .ref h5, .ref h6, .int x1, .int x2])), (h3, .inr (1, [.ref h7, .ref h8, .ref h9, .ref h10])), (h7, .inl (y0, 32768, .inl f0)), (h10, .inr (9, [.ref h11, .ref h12, .int x3, .int x4, .int x5, .int x6])), (h12, .inl (y1, 3, .inl f1)), (h11, .inl (y2, 3, .inl f2)), (h9, .inr (5, [.int x7, .int x8, .int x9, .int x10, .int x11, .int x12])), (h8, .inr (7, [.int x13, .int x14, .int x15, .int x16, .int x17])), (h1, .inl (y3, 1, .inr (.inl g0)))])) (va_Qi (fun (r : Int32) (u : (Nat → Int64)) => r = 0 ∧ True) (fun (u : (Nat → Int64)) (t : State) => va_P (dC, dI) vwCl [(h0, .inr (11, [.ref h2, .ref h3, .ref h4, .ref h5, .ref h6, .int x1, .int x2])), (h3, .inr (1, [.ref h7, .ref h8, .ref h9, .ref h10])), (h7, .inl (y0, 32768, .inl f0)), (h10, .inr (9, [.ref h11, .ref h12, .int x3, .int x4, .int x5, .int x6])), (h12, .inl (y1, 3, .inl f1)), (h11, .inl (y2, 3, .inl f2)), (h9, .inr (5, [.int x7, .int x8, .int x9, .int x10, .int x11, .int x12])), (h8, .inr (7, [.int x13, .int x14, .int x15, .int x16, .int x17])), (h1, .inl (y3, 1, .inr (.inl u)))] t.heap ∧ va_K (dC, dI) vwCl [(y0, .int), (y1, .int), (y2, .int), (y3, .long)] t ∧ va_D (va_A [(h0, .inr (11, [.ref h2, .ref h3, .ref h4, .ref h5, .ref h6, .int x1, .int x2])), (h3, .inr (1, [.ref h7, .ref h8, .ref h9, .ref h10])), (h7, .inl (y0, 32768, .inl f0)), (h10, .inr (9, [.ref h11, .ref h12, .int x3, .int x4, .int x5, .int x6])), (h12, .inl (y1, 3, .inl f1)), (h11, .inl (y2, 3, .inl f2)), (h9, .inr (5, [.int x7, .int x8, .int x9, .int x10, .int x11, .int x12])), (h8, .inr (7, [.int x13, .int x14, .int x15, .int x16, .int x17])), (h1, .inl (y3, 1, .inr (.inl g0)))] sz) [(h0, .inr (11, [.ref h2, .ref h3, .ref h4, .ref h5, .ref h6, .int x1, .int x2])), (h3, .inr (1, [.ref h7, .ref h8, .ref h9, .ref h10])), (h7, .inl (y0, 32768, .inl f0)), (h10, .inr (9, [.ref h11, .ref h12, .int x3, .int x4, .int x5, .int x6])), (h12, .inl (y1, 3, .inl f1)), (h11, .inl (y2, 3, .inl f2)), (h9, .inr (5, [.int x7, .int x8, .int x9, .int x10, .int x11, .int x12])), (h8, .inr (7, [.int x13, .int x14, .int x15, .int x16, .int x17])), (h1, .inl (y3, 1, .inr (.inl u)))]) (va_A [(h0, .inr (11, [.ref h2, .ref h3, .ref h4, .ref h5, .ref h6, .int x1, .int x2])), (h3, .inr (1, [.ref h7, .ref h8, .ref h9, .ref h10])), (h7, .inl (y0, 32768, .inl f0)), (h10, .inr (9, [.ref h11, .ref h12, .int x3, .int x4, .int x5, .int x6])), (h12, .inl (y1, 3, .inl f1)), (h11, .inl (y2, 3, .inl f2)), (h9, .inr (5, [.int x7, .int x8, .int x9, .int x10, .int x11, .int x12])), (h8, .inr (7, [.int x13, .int x14, .int x15, .int x16, .int x17])), (h1, .inl (y3, 1, .inr (.inl g0)))] sz)) 0 0 (va_A [(h0, .inr (11, [.ref h2, .ref h3, .ref h4, .ref h5, .ref h6, .int x1, .int x2])), (h3, .inr (1, [.ref h7, .ref h8, .ref h9, .ref h10])), (h7, .inl (y0, 32768, .inl f0)), (h10, .inr (9, [.ref h11, .ref h12, .int x3, .int x4, .int x5, .int x6])), (h12, .inl (y1, 3, .inl f1)), (h11, .inl (y2, 3, .inl f2)), (h9, .inr (5, [.int x7, .int x8, .int x9, .int x10, .int x11, .int x12])), (h8, .inr (7, [.int x13, .int x14, .int x15, .int x16, .int x17])), (h1, .inl (y3, 1, .inr (.inl g0)))] sz) := by
  refine va_MetW (cc := cL_peek) (maxL := 4) (ret := (some .int)) (by decide) rfl ?_
  intro p e s m args below meth c s₁ B hml hv
  obtain ⟨rfl, hsz, hP, hK, hD0⟩ := hv
  have hx := B.exec
  have hb := B.bytes
  have hr := B.returns
  have hts0 := atoms_spec (ws := Cond.codeWith yL_peek cL_peek 4 (some .int) [(0, 9, 12, 19)] :: lw_G) B.pre
  have htab := vx_table (x := x) B (hts0 _ List.mem_cons_self)
  have hG : ∀ w ∈ lw_G, w.before _ s = true := fun w h => hts0 w (List.mem_cons_of_mem _ h)
  have hown : s.vm.findClass RL = some m.cls := findClass_of_methodNamed B.named
  have hlocks := B.notSynchronized
  subst hsz
  have hD := hD0.self (sz := s.heap.size)
  generalize hAe : va_A [(h0, .inr (11, [.ref h2, .ref h3, .ref h4, .ref h5, .ref h6, .int x1, .int x2])), (h3, .inr (1, [.ref h7, .ref h8, .ref h9, .ref h10])), (h7, .inl (y0, 32768, .inl f0)), (h10, .inr (9, [.ref h11, .ref h12, .int x3, .int x4, .int x5, .int x6])), (h12, .inl (y1, 3, .inl f1)), (h11, .inl (y2, 3, .inl f2)), (h9, .inr (5, [.int x7, .int x8, .int x9, .int x10, .int x11, .int x12])), (h8, .inr (7, [.int x13, .int x14, .int x15, .int x16, .int x17])), (h1, .inl (y3, 1, .inr (.inl g0)))] s.heap.size = A at hD ⊢
  have hA : ∀ q : Nat, s.heap.size ≤ q → A q := fun q h => by rw [← hAe]; exact Or.inr h
  have hS : va_S A s.heap s.heap [] := va_S.rf
  have hP : va_P (dC, dI) vwCl [(h0, .inr (11, [.ref h2, .ref h3, .ref h4, .ref h5, .ref h6, .int x1, .int x2])), (h3, .inr (1, [.ref h7, .ref h8, .ref h9, .ref h10])), (h7, .inl (y0, 32768, .inl f0)), (h10, .inr (9, [.ref h11, .ref h12, .int x3, .int x4, .int x5, .int x6])), (h12, .inl (y1, 3, .inl f1)), (h11, .inl (y2, 3, .inl f2)), (h9, .inr (5, [.int x7, .int x8, .int x9, .int x10, .int x11, .int x12])), (h8, .inr (7, [.int x13, .int x14, .int x15, .int x16, .int x17])), (h1, .inl (y3, 1, .inr (.inl g0)))] s.heap := hP
  have hl := lv_entry ([.ref h0, .int x0, .ref h1]) (n := 4) (Nat.le_of_ble_eq_true rfl)
  rw [lg_entry_eq]
  generalize (lg_sl ([.ref h0, .int x0, .ref h1]) ++ List.replicate (4 - (lg_sl ([.ref h0, .int x0, .ref h1])).length) Slot.unset).toArray = ls at hl ⊢
  have hl : lv_has ls 4 [(0, .ref h0), (1, .int x0), (2, .ref h1)] := hl
  generalize ([.ref h0, .int x0, .ref h1] : List Value).toArray = ar at hG ⊢
  refine wq (fun Q hQ => ?_)
  refine lv_aload_n hx hb dL_peek_0 rfl (lv_at hl 2 rfl) ?_
  refine lv_iconst (v := 0) hx hb dL_peek_1 (by decide) ?_
  refine lv_aload_n hx hb dL_peek_2 rfl (lv_at hl 0 rfl) ?_
  refine lv_iload_n hx hb dL_peek_3 rfl (lv_at hl 1 rfl) ?_
  obtain ⟨hPc, hDc, hFc⟩ := nv_sub3 (wc := [(h0, .inr (11, [.ref h2, .ref h3, .ref h4, .ref h5, .ref h6, .int x1, .int x2])), (h3, .inr (1, [.ref h7, .ref h8, .ref h9, .ref h10])), (h7, .inl (y0, 32768, .inl f0)), (h10, .inr (9, [.ref h11, .ref h12, .int x3, .int x4, .int x5, .int x6])), (h12, .inl (y1, 3, .inl f1)), (h11, .inl (y2, 3, .inl f2)), (h9, .inr (5, [.int x7, .int x8, .int x9, .int x10, .int x11, .int x12])), (h8, .inr (7, [.int x13, .int x14, .int x15, .int x16, .int x17]))]) hP hD hS hA [0, 1, 2, 3, 4, 5, 6, 7] (by decide) rfl
  have hKc := hK.sub (tys' := [(y0, .int), (y1, .int), (y2, .int)]) [0, 1, 2] rfl
  refine va_calli (va_runV (As := [.int x0]) (rest := [.int 0, .ref h1]) ⟨hx, hb, hml, hown, hG⟩ (cX11_peek_3 l dC dI h0 h2 h3 h4 h5 h6 h7 h8 h9 h10 h11 h12 y0 y1 y2 s.heap.size x0 x1 x2 x3 x4 x5 x6 x7 x8 x9 x10 x11 x12 x13 x14 x15 x16 x17 f0 f1 f2 ix0 ix1 ix6) (cwV 1 hG (gV wd_1153 wd_1154 wd_1155 wd_1 wd_1156) rfl rfl rfl (by decide +kernel) ⟨Nat.le_of_ble_eq_true rfl, Nat.le_of_ble_eq_true rfl⟩) ⟨fun a U g mk q => by obtain ⟨q0, q1, qP, qK, qD⟩ := q; exact ⟨q0, q1, qP, va_K.moved (u := U) (U := U.calling g mk a) (Vm.Alike.refl U.vm) qK, qD⟩, va_recv hKc hPc (ci := 11) (q0 := 0) rfl rfl, fun U hU hW => ⟨rfl, by rw [hU], by rw [hU]; exact hPc, va_K.moved hW.alike hKc, hDc.weaken (fun _ _ _ _ => trivial)⟩⟩ rfl rfl hl.1 rfl (lv_room (Nat.le_of_ble_eq_true rfl)) dL_peek_4 ⟨by decide, by decide⟩) hS (fun q _ h => hFc q h) hFc (fun r1 u2 t H1 locs ht hvm hw hB hz1 hk1 hS => ?_)
  have hw : iv r1 (-8388608) 8388607 ∧ True := hw
  obtain ⟨ir1, -⟩ := hw
  obtain ⟨hP1, hK1, hD1⟩ := hB
  rw [ht] at hP1
  have hK1 := va_K.moved hvm.symm hK1
  obtain ⟨hP, hD⟩ := nv_join (wf := [(h1, .inl (y3, 1, .inr (.inl g0))), (h0, .inr (11, [.ref h2, .ref h3, .ref h4, .ref h5, .ref h6, .int x1, .int x2])), (h3, .inr (1, [.ref h7, .ref h8, .ref h9, .ref h10])), (h7, .inl (y0, 32768, .inl f0)), (h10, .inr (9, [.ref h11, .ref h12, .int x3, .int x4, .int x5, .int x6])), (h12, .inl (y1, 3, .inl f1)), (h11, .inl (y2, 3, .inl f2)), (h9, .inr (5, [.int x7, .int x8, .int x9, .int x10, .int x11, .int x12])), (h8, .inr (7, [.int x13, .int x14, .int x15, .int x16, .int x17]))]) hP hD [0, 1, 2, 3, 4, 5, 6, 7] [8] rfl rfl (by decide) (by decide) hk1 hFc hP1 hD1 rfl
  have hK := (hK.sub (tys' := [(y3, .long)]) [3] rfl).app hK1
  generalize H1 = H at hP hS ⊢
  have hK : va_K (dC, dI) vwCl [(y3, .long), (y0, .int), (y1, .int), (y2, .int)] s := hK
  refine lv_i2l (v := _) hx hb dL_peek_7 rfl ?_
  refine lv_topl (fun w3 ew3 => ?_)
  refine va_last hx hb hK hP hD hS 0 0 rfl rfl (iv_in (by decide : iv 0 0 0) (by decide) (by decide) : vp_in 0 1) dL_peek_8 (fun H locs hP hD hS => ?_)
  obtain ⟨nf4, enf4⟩ : ∃ z, z = vp_updL g0 (0 : Int32).toNatClampNeg w3 := ⟨_, rfl⟩
  obtain ⟨hP, hD⟩ := nv_eq (ws' := [(h1, .inl (y3, 1, .inr (.inl nf4))), (h0, .inr (11, [.ref h2, .ref h3, .ref h4, .ref h5, .ref h6, .int x1, .int x2])), (h3, .inr (1, [.ref h7, .ref h8, .ref h9, .ref h10])), (h7, .inl (y0, 32768, .inl f0)), (h10, .inr (9, [.ref h11, .ref h12, .int x3, .int x4, .int x5, .int x6])), (h12, .inl (y1, 3, .inl f1)), (h11, .inl (y2, 3, .inl f2)), (h9, .inr (5, [.int x7, .int x8, .int x9, .int x10, .int x11, .int x12])), (h8, .inr (7, [.int x13, .int x14, .int x15, .int x16, .int x17]))]) hP hD (by subst enf4; rfl)
  refine lv_goto (tgt := 15) hx hb dL_peek_9 (by decide) ?_
  refine lv_iconst (v := 0) hx hb dL_peek_15 (by decide) ?_
  rw [hQ]
  obtain ⟨hP9, hD9⟩ := nv_sub2 (wc := [(h0, .inr (11, [.ref h2, .ref h3, .ref h4, .ref h5, .ref h6, .int x1, .int x2])), (h3, .inr (1, [.ref h7, .ref h8, .ref h9, .ref h10])), (h7, .inl (y0, 32768, .inl f0)), (h10, .inr (9, [.ref h11, .ref h12, .int x3, .int x4, .int x5, .int x6])), (h12, .inl (y1, 3, .inl f1)), (h11, .inl (y2, 3, .inl f2)), (h9, .inr (5, [.int x7, .int x8, .int x9, .int x10, .int x11, .int x12])), (h8, .inr (7, [.int x13, .int x14, .int x15, .int x16, .int x17])), (h1, .inl (y3, 1, .inr (.inl nf4)))]) hP hD [1, 2, 3, 4, 5, 6, 7, 8, 0] (by decide) rfl
  have hK9 := hK.sub (tys' := [(y0, .int), (y1, .int), (y2, .int), (y3, .long)]) [1, 2, 3, 0] rfl
  exact W.iret (v := 0) hx hb hr (fun t ht hW => ⟨⟨0, nf4, rfl, ⟨rfl, trivial⟩, by rw [ht]; exact hP9, va_K.moved hW.alike hK9, hD9⟩, hS.F ht⟩) hS.2.2 dL_peek_16
set_option maxHeartbeats 100000000 in
set_option maxRecDepth 100000 in
theorem cX11_poke_1 (l : Launch) (hst : l.stackTraces = false) (dC : Nat → ClassId) (dI : Nat → Nat → Nat) (adK adV : Nat → Nat) (h0 h1 h2 h3 h4 h5 : Nat) (sz : Nat) (x0 x1 x2 x3 : Int32) (ix0 : iv x0 (-2147483648) (-1)) (ix2 : iv x2 0 2600) : vx_Met l yX11_poke (Cond.code yX11_poke cX11_poke 3 (some .boolean) :: lw_G) ({ frames := 6, cells := 1, slots := 6, locals := 82 }) (va_Pc [.ref h0, .int x0, .int x1] (fun U => U.heap.size = sz ∧ va_P (dC, dI) vwCl [(h0, .inr (11, [.ref h1, .ref h2, .ref h3, .ref h4, .ref h5, .int x2, .int x3]))] U.heap ∧ va_K (dC, dI) vwCl [] U ∧ va_D (fun _ => True) [(h0, .inr (11, [.ref h1, .ref h2, .ref h3, .ref h4, .ref h5, .int x2, .int x3]))] ∧ ev adK adV (va_A [(h0, .inr (11, [.ref h1, .ref h2, .ref h3, .ref h4, .ref h5, .int x2, .int x3]))] sz) U U.heap)) (va_Qi (fun (_ : Int32) (_ : Unit) => False) (fun _ _ => True) (va_A [(h0, .inr (11, [.ref h1, .ref h2, .ref h3, .ref h4, .ref h5, .int x2, .int x3]))] sz)) (vx_X (fun (_ : Unit) => True) (fun (E : String) (_ : Unit) (t : State) => E = "java/lang/IndexOutOfBoundsException" ∧ va_P (dC, dI) vwCl [(h0, .inr (11, [.ref h1, .ref h2, .ref h3, .ref h4, .ref h5, .int x2, .int x3]))] t.heap ∧ va_K (dC, dI) vwCl [] t ∧ va_D (va_A [(h0, .inr (11, [.ref h1, .ref h2, .ref h3, .ref h4, .ref h5, .int x2, .int x3]))] sz) [(h0, .inr (11, [.ref h1, .ref h2, .ref h3, .ref h4, .ref h5, .int x2, .int x3]))]) (va_A [(h0, .inr (11, [.ref h1, .ref h2, .ref h3, .ref h4, .ref h5, .int x2, .int x3]))] sz)) 1 6 (va_A [(h0, .inr (11, [.ref h1, .ref h2, .ref h3, .ref h4, .ref h5, .int x2, .int x3]))] sz) := by
  refine vx_ofW (cc := cX11_poke) (maxL := 3) (ret := (some .boolean)) (by decide) rfl ?_
  intro p e s m args below meth c s₁ B hml htab hv
  obtain ⟨rfl, hsz, hP, hK, hD0, hE⟩ := hv
  have hx := B.exec
  have hb := B.bytes
  have hr := B.returns
  have hts0 := atoms_spec (ws := Cond.code yX11_poke cX11_poke 3 (some .boolean) :: lw_G) B.pre
  have hG : ∀ w ∈ lw_G, w.before _ s = true := fun w h => hts0 w (List.mem_cons_of_mem _ h)
  have hown : s.vm.findClass RX11 = some m.cls := findClass_of_methodNamed B.named
  have hlocks := B.notSynchronized
  subst hsz
  have hD := hD0.self (sz := s.heap.size)
  generalize hAe : va_A [(h0, .inr (11, [.ref h1, .ref h2, .ref h3, .ref h4, .ref h5, .int x2, .int x3]))] s.heap.size = A at hD hE ⊢
  have hA : ∀ q : Nat, s.heap.size ≤ q → A q := fun q h => by rw [← hAe]; exact Or.inr h
  have hS : va_S A s.heap s.heap [] := va_S.rf
  have hP : va_P (dC, dI) vwCl [(h0, .inr (11, [.ref h1, .ref h2, .ref h3, .ref h4, .ref h5, .int x2, .int x3]))] s.heap := hP
  have hl := lv_entry ([.ref h0, .int x0, .int x1]) (n := 3) (Nat.le_of_ble_eq_true rfl)
  rw [lg_entry_eq]
  generalize (lg_sl ([.ref h0, .int x0, .int x1]) ++ List.replicate (3 - (lg_sl ([.ref h0, .int x0, .int x1])).length) Slot.unset).toArray = ls at hl ⊢
  have hl : lv_has ls 3 [(0, .ref h0), (1, .int x0), (2, .int x1)] := hl
  refine lv_iload_n hx hb dX11_poke_0 rfl (lv_at hl 1 rfl) ?_
  refine lv_if_lt (tgt := 10) hx hb dX11_poke_1 (by decide) (fun _ => ?_) (fun c => absurd (iv_lt ix0 (by decide : iv 0 0 0) (by decide)) c)
  obtain ⟨hP9, hD9⟩ := nv_sub2 (wc := [(h0, .inr (11, [.ref h1, .ref h2, .ref h3, .ref h4, .ref h5, .int x2, .int x3]))]) hP hD [0] (by decide) rfl
  have hK9 := hK.sub (tys' := []) [] rfl
  refine vx_throwS (own := RX11) (cls := "java/lang/IndexOutOfBoundsException") (text := evT4) (names := ["java/lang/RuntimeException", "java/lang/Exception"]) hx hb hst hown (by decide) (by decide) (hG _ wd_1126) (hG _ wd_24) (evR4 hE) (evA1 hE hG) evG1_106 hE.2.2.2.1 hE.2.2.2.2.1 hS (by rw [hml]; exact hl.1) dX11_poke_10 dX11_poke_13 dX11_poke_14 dX11_poke_16 dX11_poke_19 (fun x hx9 => (htab x hx9).elim) (by decide) (by decide) (by decide) (by decide) hlocks (fun t hvm9 hz9 hk9 => ⟨(), trivial, ⟨rfl, hP9.kept (fun k q hk => hk9 q.1 (vx_lt hP9 hk)), va_K.moved hvm9 hK9, hD9⟩, Nat.le_trans hS.1 hz9, fun q hq hA9 => (hk9 q (Nat.lt_of_lt_of_le hq hS.1)).trans (hS.2.1 q hq hA9)⟩) hS.2.2 (by decide) (by decide)
set_option maxHeartbeats 100000000 in
set_option maxRecDepth 100000 in
theorem cL_poke_1 (l : Launch) (hst : l.stackTraces = false) (dC : Nat → ClassId) (dI : Nat → Nat → Nat) (adK adV : Nat → Nat) (h0 h1 h2 h3 h4 h5 h6 : Nat) (sz : Nat) (x0 x1 x2 x3 : Int32) (ix0 : iv x0 (-2147483648) (-1)) (ix2 : iv x2 0 2600) : Met l yL_poke (Cond.codeWith yL_poke cL_poke 5 (some .int) [(0, 17, 20, 19)] :: lw_G) ({ frames := 7, cells := 1, slots := 6, locals := 104 }) (va_Pc [.ref h0, .int x0, .int x1, .ref h1] (fun U => U.heap.size = sz ∧ va_P (dC, dI) vwCl [(h0, .inr (11, [.ref h2, .ref h3, .ref h4, .ref h5, .ref h6, .int x2, .int x3]))] U.heap ∧ va_K (dC, dI) vwCl [] U ∧ va_D (fun _ => True) [(h0, .inr (11, [.ref h2, .ref h3, .ref h4, .ref h5, .ref h6, .int x2, .int x3]))] ∧ ev adK adV (va_A [(h0, .inr (11, [.ref h2, .ref h3, .ref h4, .ref h5, .ref h6, .int x2, .int x3]))] sz) U U.heap)) (va_Qi (fun (r : Int32) (u : Unit) => r = 1 ∧ True) (fun (u : Unit) (t : State) => va_P (dC, dI) vwCl [(h0, .inr (11, [.ref h2, .ref h3, .ref h4, .ref h5, .ref h6, .int x2, .int x3]))] t.heap ∧ va_K (dC, dI) vwCl [] t ∧ va_D (va_A [(h0, .inr (11, [.ref h2, .ref h3, .ref h4, .ref h5, .ref h6, .int x2, .int x3]))] sz) [(h0, .inr (11, [.ref h2, .ref h3, .ref h4, .ref h5, .ref h6, .int x2, .int x3]))]) (va_A [(h0, .inr (11, [.ref h2, .ref h3, .ref h4, .ref h5, .ref h6, .int x2, .int x3]))] sz)) 1 6 (va_A [(h0, .inr (11, [.ref h2, .ref h3, .ref h4, .ref h5, .ref h6, .int x2, .int x3]))] sz) := by
  refine va_MetW (cc := cL_poke) (maxL := 5) (ret := (some .int)) (by decide) rfl ?_
  intro p e s m args below meth c s₁ B hml hv
  obtain ⟨rfl, hsz, hP, hK, hD0, hE⟩ := hv
  have hx := B.exec
  have hb := B.bytes
  have hr := B.returns
  have hts0 := atoms_spec (ws := Cond.codeWith yL_poke cL_poke 5 (some .int) [(0, 17, 20, 19)] :: lw_G) B.pre
  have htab := vx_table (x := x) B (hts0 _ List.mem_cons_self)
  have hG : ∀ w ∈ lw_G, w.before _ s = true := fun w h => hts0 w (List.mem_cons_of_mem _ h)
  have hown : s.vm.findClass RL = some m.cls := findClass_of_methodNamed B.named
  have hlocks := B.notSynchronized
  subst hsz
  have hD := hD0.self (sz := s.heap.size)
  generalize hAe : va_A [(h0, .inr (11, [.ref h2, .ref h3, .ref h4, .ref h5, .ref h6, .int x2, .int x3]))] s.heap.size = A at hD hE ⊢
  have hA : ∀ q : Nat, s.heap.size ≤ q → A q := fun q h => by rw [← hAe]; exact Or.inr h
  have hS : va_S A s.heap s.heap [] := va_S.rf
  have hP : va_P (dC, dI) vwCl [(h0, .inr (11, [.ref h2, .ref h3, .ref h4, .ref h5, .ref h6, .int x2, .int x3]))] s.heap := hP
  have hl := lv_entry ([.ref h0, .int x0, .int x1, .ref h1]) (n := 5) (Nat.le_of_ble_eq_true rfl)
  rw [lg_entry_eq]
  generalize (lg_sl ([.ref h0, .int x0, .int x1, .ref h1]) ++ List.replicate (5 - (lg_sl ([.ref h0, .int x0, .int x1, .ref h1])).length) Slot.unset).toArray = ls at hl ⊢
  have hl : lv_has ls 5 [(0, .ref h0), (1, .int x0), (2, .int x1), (3, .ref h1)] := hl
  generalize ([.ref h0, .int x0, .int x1, .ref h1] : List Value).toArray = ar at hG ⊢
  refine wq (fun Q hQ => ?_)
  refine lv_aload_n hx hb dL_poke_0 rfl (lv_at hl 3 rfl) ?_
  refine lv_iconst (v := 0) hx hb dL_poke_1 (by decide) ?_
  refine lv_aload_n hx hb dL_poke_2 rfl (lv_at hl 0 rfl) ?_
  refine lv_iload_n hx hb dL_poke_3 rfl (lv_at hl 1 rfl) ?_
  refine lv_iload_n hx hb dL_poke_4 rfl (lv_at hl 2 rfl) ?_
  obtain ⟨hPc, hDc, hFc⟩ := nv_sub3 (wc := [(h0, .inr (11, [.ref h2, .ref h3, .ref h4, .ref h5, .ref h6, .int x2, .int x3]))]) hP hD hS hA [0] (by decide) rfl
  have hKc := hK.sub (tys' := []) [] rfl
  refine vx_calli (vx_runV (As := [.int x0, .int x1]) (rest := [.int 0, .ref h1]) ⟨hx, hb, hml, hown, hG⟩ (cX11_poke_1 l hst dC dI adK adV h0 h2 h3 h4 h5 h6 s.heap.size x0 x1 x2 x3 ix0 ix2) (cwV 2 hG (gV wd_1166 wd_1167 wd_1168 wd_1 wd_1169) rfl rfl rfl (by decide +kernel) ⟨Nat.le_of_ble_eq_true rfl, Nat.le_of_ble_eq_true rfl⟩) ⟨fun a U g mk q => by obtain ⟨q0, q1, qP, qK, qD, qE⟩ := q; exact ⟨q0, q1, qP, va_K.moved (u := U) (U := U.calling g mk a) (Vm.Alike.refl U.vm) qK, qD, qE.same rfl⟩, va_recv hKc hPc (ci := 11) (q0 := 0) rfl rfl, fun U hU hW => ⟨rfl, by rw [hU], by rw [hU]; exact hPc, va_K.moved hW.alike hKc, hDc.weaken (fun _ _ _ _ => trivial), by rw [hU]; exact ((hE.kept hS.2.1).narrow hFc).warm hW⟩⟩ rfl rfl hl.1 rfl (lv_room (Nat.le_of_ble_eq_true rfl)) dL_poke_5 ⟨by decide, by decide⟩) hS (fun q _ h => hFc q h) hFc (fun q _ h => hFc q h) (fun E9 ce q1 u9 t H1 locs ht hvm hpx hB hz1 hk1 hS hce hcv hcl => ?_) (fun r u t H1 locs ht hvm hw hB hz1 hk1 hS => hw.elim)
  obtain ⟨rfl, hP1, hK1, hD1⟩ := hB
  rw [ht] at hP1
  have hK1 := va_K.moved hvm.symm hK1
  obtain ⟨hP, hD⟩ := nv_join (wf := [(h0, .inr (11, [.ref h2, .ref h3, .ref h4, .ref h5, .ref h6, .int x2, .int x3]))]) hP hD [0] [] rfl rfl (by decide) (by decide) hk1 hFc hP1 hD1 rfl
  have hK := (hK.sub (tys' := []) [] rfl).app hK1
  generalize H1 = H at hP hS hce ⊢
  have hK : va_K (dC, dI) vwCl [] s := hK
  refine vx_widen (k := 1) (n := 6) (by decide) (by decide) ?_
  refine vx_catch (name := "java/lang/IndexOutOfBoundsException") hown [] { startPc := 0, endPc := 17, handlerPc := 20, catchType := 19 } [] (by rw [htab]; rfl) (fun z hz => nomatch hz) (by decide) (by decide) (hG _ wd_1121) (evC1 hE) hce hcv hcl ?_
  refine lv_astore (lv' := [(4, .ref q1), (0, .ref h0), (1, .int x0), (2, .int x1), (3, .ref h1)]) hx hb dL_poke_20 hl (by decide) rfl (fun ls hl => ?_)
  refine lv_iconst (v := 1) hx hb dL_poke_22 (by decide) ?_
  rw [hQ]
  obtain ⟨hP9, hD9⟩ := nv_sub2 (wc := [(h0, .inr (11, [.ref h2, .ref h3, .ref h4, .ref h5, .ref h6, .int x2, .int x3]))]) hP hD [0] (by decide) rfl
  have hK9 := hK.sub (tys' := []) [] rfl
  refine W.widen (k := 1) (n := 6) (by decide) (by decide) ?_
  exact W.iret (v := 1) hx hb hr (fun t ht hW => ⟨⟨1, (), rfl, ⟨rfl, trivial⟩, by rw [ht]; exact hP9, va_K.moved hW.alike hK9, hD9⟩, hS.F ht⟩) hS.2.2 dL_poke_23
set_option maxHeartbeats 100000000 in
set_option maxRecDepth 100000 in
theorem cX12_poke_1 (l : Launch) (dC : Nat → ClassId) (dI : Nat → Nat → Nat) (h0 h1 h2 h3 h4 h5 h6 h7 h8 h9 h10 h11 h12 h13 h14 h15 h16 h17 : Nat) (y0 y1 y2 : ClassId) (sz : Nat) (x0 x1 x2 x3 x4 x5 x6 x7 x8 x9 x10 x11 x12 x13 x14 x15 x16 x17 x18 x19 x20 x21 x22 x23 x24 x25 x26 x27 x28 x29 x30 x31 x32 x33 x34 x35 x36 x37 x38 x39 x40 x41 x42 x43 x44 x45 x46 x47 x48 x49 x50 x51 x52 x53 x54 x55 : Int32) (z0 : Int64) (f0 f1 f2 : Nat → Int32) (ix17 : iv x17 0 1) (ix18 : iv x18 0 40) (ix23 : iv x23 0 65535) (ix24 : iv x24 0 1) (ix25 : iv x25 0 1) (ix26 : iv x26 0 2600) (ix27 : iv x27 0 2600) (ix28 : iv x28 0 2500) (ix29 : iv x29 0 2500) (ix33 : iv x33 0 1048575) (ix34 : iv x34 0 60) (ix35 : iv x35 0 60) (ix36 : iv x36 0 1) (ix37 : iv x37 0 1) (ix38 : iv x38 0 65535) (ix43 : iv x43 0 5200) (ix44 : iv x44 0 70800) (ix48 : iv x48 0 1) (ix49 : iv x49 0 1) (ix51 : iv x51 0 100) (ix55 : iv x55 0 1) (if2 : ∀ j, iv (f2 j) (-128) 127) : Met l yX12_poke (Cond.code yX12_poke cX12_poke 3 (some .boolean) :: lw_G) ({ frames := 4, cells := 0, slots := 0, locals := 86 }) (va_Pc [.ref h0, .int x0, .int x1] (fun U => U.heap.size = sz ∧ va_P (dC, dI) vwCl [(h0, .inr (12, .int x2 :: .ref h1 :: .ref h2 :: .int x3 :: .int x4 :: .int x5 :: .int x6 :: .int x7 :: .int x8 :: .int x9 :: .int x10 :: .int x11 :: [.int x12, .int x13, .int x14, .int x15, .int x16, .int x17, .ref h3, .ref h4, .ref h5, .ref h6, .int x18, .int x19, .int x20, .int x21, .int x22, .int x23, .int x24, .int x25, .ref h7, .int x26, .int x27, .int x28, .int x29, .ref h8, .ref h9, .int x30, .int x31, .long z0, .int x32, .int x33, .ref h10, .ref h11, .ref h12, .ref h13, .ref h14, .int x34, .int x35, .int x36, .int x37, .int x38, .int x39, .int x40, .int x41, .int x42, .ref h15, .ref h16, .int x43, .int x44, .int x45, .int x46, .int x47, .int x48, .int x49, .int x50, .ref h17, .int x51, .int x52, .int x53, .int x54, .int x55])), (h3, .inl (y0, 3, .inl f0)), (h4, .inl (y1, 3, .inl f1)), (h1, .inl (y2, 65536, .inl f2))] U.heap ∧ va_K (dC, dI) vwCl [(y0, .int), (y1, .int), (y2, .byte)] U ∧ va_D (fun _ => True) [(h0, .inr (12, .int x2 :: .ref h1 :: .ref h2 :: .int x3 :: .int x4 :: .int x5 :: .int x6 :: .int x7 :: .int x8 :: .int x9 :: .int x10 :: .int x11 :: [.int x12, .int x13, .int x14, .int x15, .int x16, .int x17, .ref h3, .ref h4, .ref h5, .ref h6, .int x18, .int x19, .int x20, .int x21, .int x22, .int x23, .int x24, .int x25, .ref h7, .int x26, .int x27, .int x28, .int x29, .ref h8, .ref h9, .int x30, .int x31, .long z0, .int x32, .int x33, .ref h10, .ref h11, .ref h12, .ref h13, .ref h14, .int x34, .int x35, .int x36, .int x37, .int x38, .int x39, .int x40, .int x41, .int x42, .ref h15, .ref h16, .int x43, .int x44, .int x45, .int x46, .int x47, .int x48, .int x49, .int x50, .ref h17, .int x51, .int x52, .int x53, .int x54, .int x55])), (h3, .inl (y0, 3, .inl f0)), (h4, .inl (y1, 3, .inl f1)), (h1, .inl (y2, 65536, .inl f2))])) (va_Qi (fun (r : Int32) (u : Int32 × Int32 × Int32 × Int32 × Int32 × Int32 × Int32 × Int32 × Int32 × Int32 × Int32 × Int32 × Int32 × Int32 × Int32 × (Nat → Int32) × (Nat → Int32) × (Nat → Int32)) => iv r 0 1 ∧ iv u.1 0 1 ∧ iv u.2.2.2.2.2.2.2.2.2.2.2.2.2.2.1 0 1 ∧ (∀ j, iv (u.2.2.2.2.2.2.2.2.2.2.2.2.2.2.2.2.2 j) (-128) 127) ∧ True) (fun (u : Int32 × Int32 × Int32 × Int32 × Int32 × Int32 × Int32 × Int32 × Int32 × Int32 × Int32 × Int32 × Int32 × Int32 × Int32 × (Nat → Int32) × (Nat → Int32) × (Nat → Int32)) (t : State) => va_P (dC, dI) vwCl [(h0, .inr (12, .int u.1 :: .ref h1 :: .ref h2 :: .int x3 :: .int u.2.1 :: .int u.2.2.1 :: .int u.2.2.2.1 :: .int u.2.2.2.2.1 :: .int u.2.2.2.2.2.1 :: .int u.2.2.2.2.2.2.1 :: .int u.2.2.2.2.2.2.2.1 :: .int u.2.2.2.2.2.2.2.2.1 :: [.int u.2.2.2.2.2.2.2.2.2.1, .int u.2.2.2.2.2.2.2.2.2.2.1, .int u.2.2.2.2.2.2.2.2.2.2.2.1, .int u.2.2.2.2.2.2.2.2.2.2.2.2.1, .int u.2.2.2.2.2.2.2.2.2.2.2.2.2.1, .int u.2.2.2.2.2.2.2.2.2.2.2.2.2.2.1, .ref h3, .ref h4, .ref h5, .ref h6, .int x18, .int x19, .int x20, .int x21, .int x22, .int x23, .int x24, .int x25, .ref h7, .int x26, .int x27, .int x28, .int x29, .ref h8, .ref h9, .int x30, .int x31, .long z0, .int x32, .int x33, .ref h10, .ref h11, .ref h12, .ref h13, .ref h14, .int x34, .int x35, .int x36, .int x37, .int x38, .int x39, .int x40, .int x41, .int x42, .ref h15, .ref h16, .int x43, .int x44, .int x45, .int x46, .int x47, .int x48, .int x49, .int x50, .ref h17, .int x51, .int x52, .int x53, .int x54, .int x55])), (h3, .inl (y0, 3, .inl u.2.2.2.2.2.2.2.2.2.2.2.2.2.2.2.1)), (h4, .inl (y1, 3, .inl u.2.2.2.2.2.2.2.2.2.2.2.2.2.2.2.2.1)), (h1, .inl (y2, 65536, .inl u.2.2.2.2.2.2.2.2.2.2.2.2.2.2.2.2.2))] t.heap ∧ va_K (dC, dI) vwCl [(y0, .int), (y1, .int), (y2, .byte)] t ∧ va_D (va_A [(h0, .inr (12, .int x2 :: .ref h1 :: .ref h2 :: .int x3 :: .int x4 :: .int x5 :: .int x6 :: .int x7 :: .int x8 :: .int x9 :: .int x10 :: .int x11 :: [.int x12, .int x13, .int x14, .int x15, .int x16, .int x17, .ref h3, .ref h4, .ref h5, .ref h6, .int x18, .int x19, .int x20, .int x21, .int x22, .int x23, .int x24, .int x25, .ref h7, .int x26, .int x27, .int x28, .int x29, .ref h8, .ref h9, .int x30, .int x31, .long z0, .int x32, .int x33, .ref h10, .ref h11, .ref h12, .ref h13, .ref h14, .int x34, .int x35, .int x36, .int x37, .int x38, .int x39, .int x40, .int x41, .int x42, .ref h15, .ref h16, .int x43, .int x44, .int x45, .int x46, .int x47, .int x48, .int x49, .int x50, .ref h17, .int x51, .int x52, .int x53, .int x54, .int x55])), (h3, .inl (y0, 3, .inl f0)), (h4, .inl (y1, 3, .inl f1)), (h1, .inl (y2, 65536, .inl f2))] sz) [(h0, .inr (12, .int u.1 :: .ref h1 :: .ref h2 :: .int x3 :: .int u.2.1 :: .int u.2.2.1 :: .int u.2.2.2.1 :: .int u.2.2.2.2.1 :: .int u.2.2.2.2.2.1 :: .int u.2.2.2.2.2.2.1 :: .int u.2.2.2.2.2.2.2.1 :: .int u.2.2.2.2.2.2.2.2.1 :: [.int u.2.2.2.2.2.2.2.2.2.1, .int u.2.2.2.2.2.2.2.2.2.2.1, .int u.2.2.2.2.2.2.2.2.2.2.2.1, .int u.2.2.2.2.2.2.2.2.2.2.2.2.1, .int u.2.2.2.2.2.2.2.2.2.2.2.2.2.1, .int u.2.2.2.2.2.2.2.2.2.2.2.2.2.2.1, .ref h3, .ref h4, .ref h5, .ref h6, .int x18, .int x19, .int x20, .int x21, .int x22, .int x23, .int x24, .int x25, .ref h7, .int x26, .int x27, .int x28, .int x29, .ref h8, .ref h9, .int x30, .int x31, .long z0, .int x32, .int x33, .ref h10, .ref h11, .ref h12, .ref h13, .ref h14, .int x34, .int x35, .int x36, .int x37, .int x38, .int x39, .int x40, .int x41, .int x42, .ref h15, .ref h16, .int x43, .int x44, .int x45, .int x46, .int x47, .int x48, .int x49, .int x50, .ref h17, .int x51, .int x52, .int x53, .int x54, .int x55])), (h3, .inl (y0, 3, .inl u.2.2.2.2.2.2.2.2.2.2.2.2.2.2.2.1)), (h4, .inl (y1, 3, .inl u.2.2.2.2.2.2.2.2.2.2.2.2.2.2.2.2.1)), (h1, .inl (y2, 65536, .inl u.2.2.2.2.2.2.2.2.2.2.2.2.2.2.2.2.2))]) (va_A [(h0, .inr (12, .int x2 :: .ref h1 :: .ref h2 :: .int x3 :: .int x4 :: .int x5 :: .int x6 :: .int x7 :: .int x8 :: .int x9 :: .int x10 :: .int x11 :: [.int x12, .int x13, .int x14, .int x15, .int x16, .int x17, .ref h3, .ref h4, .ref h5, .ref h6, .int x18, .int x19, .int x20, .int x21, .int x22, .int x23, .int x24, .int x25, .ref h7, .int x26, .int x27, .int x28, .int x29, .ref h8, .ref h9, .int x30, .int x31, .long z0, .int x32, .int x33, .ref h10, .ref h11, .ref h12, .ref h13, .ref h14, .int x34, .int x35, .int x36, .int x37, .int x38, .int x39, .int x40, .int x41, .int x42, .ref h15, .ref h16, .int x43, .int x44, .int x45, .int x46, .int x47, .int x48, .int x49, .int x50, .ref h17, .int x51, .int x52, .int x53, .int x54, .int x55])), (h3, .inl (y0, 3, .inl f0)), (h4, .inl (y1, 3, .inl f1)), (h1, .inl (y2, 65536, .inl f2))] sz)) 0 0 (va_A [(h0, .inr (12, .int x2 :: .ref h1 :: .ref h2 :: .int x3 :: .int x4 :: .int x5 :: .int x6 :: .int x7 :: .int x8 :: .int x9 :: .int x10 :: .int x11 :: [.int x12, .int x13, .int x14, .int x15, .int x16, .int x17, .ref h3, .ref h4, .ref h5, .ref h6, .int x18, .int x19, .int x20, .int x21, .int x22, .int x23, .int x24, .int x25, .ref h7, .int x26, .int x27, .int x28, .int x29, .ref h8, .ref h9, .int x30, .int x31, .long z0, .int x32, .int x33, .ref h10, .ref h11, .ref h12, .ref h13, .ref h14, .int x34, .int x35, .int x36, .int x37, .int x38, .int x39, .int x40, .int x41, .int x42, .ref h15, .ref h16, .int x43, .int x44, .int x45, .int x46, .int x47, .int x48, .int x49, .int x50, .ref h17, .int x51, .int x52, .int x53, .int x54, .int x55])), (h3, .inl (y0, 3, .inl f0)), (h4, .inl (y1, 3, .inl f1)), (h1, .inl (y2, 65536, .inl f2))] sz) := by
  refine Met.ofW (cc := cX12_poke) (maxL := 3) (ret := (some .boolean)) (by decide) rfl ?_
  intro p e s m args below meth c s₁ B hml hv
  obtain ⟨rfl, hsz, hP, hK, hD0⟩ := hv
  have hx := B.exec
  have hb := B.bytes
  have hr := B.returns
  have hts0 := atoms_spec (ws := Cond.code yX12_poke cX12_poke 3 (some .boolean) :: lw_G) B.pre
  have hG : ∀ w ∈ lw_G, w.before _ s = true := fun w h => hts0 w (List.mem_cons_of_mem _ h)
  have hown : s.vm.findClass RX12 = some m.cls := findClass_of_methodNamed B.named
  have hlocks := B.notSynchronized
  subst hsz
  have hD := hD0.self (sz := s.heap.size)
  generalize hAe : va_A [(h0, .inr (12, .int x2 :: .ref h1 :: .ref h2 :: .int x3 :: .int x4 :: .int x5 :: .int x6 :: .int x7 :: .int x8 :: .int x9 :: .int x10 :: .int x11 :: [.int x12, .int x13, .int x14, .int x15, .int x16, .int x17, .ref h3, .ref h4, .ref h5, .ref h6, .int x18, .int x19, .int x20, .int x21, .int x22, .int x23, .int x24, .int x25, .ref h7, .int x26, .int x27, .int x28, .int x29, .ref h8, .ref h9, .int x30, .int x31, .long z0, .int x32, .int x33, .ref h10, .ref h11, .ref h12, .ref h13, .ref h14, .int x34, .int x35, .int x36, .int x37, .int x38, .int x39, .int x40, .int x41, .int x42, .ref h15, .ref h16, .int x43, .int x44, .int x45, .int x46, .int x47, .int x48, .int x49, .int x50, .ref h17, .int x51, .int x52, .int x53, .int x54, .int x55])), (h3, .inl (y0, 3, .inl f0)), (h4, .inl (y1, 3, .inl f1)), (h1, .inl (y2, 65536, .inl f2))] s.heap.size = A at hD ⊢
  have hA : ∀ q : Nat, s.heap.size ≤ q → A q := fun q h => by rw [← hAe]; exact Or.inr h
  have hS : va_S A s.heap s.heap [] := va_S.rf
  have hP : va_P (dC, dI) vwCl [(h0, .inr (12, .int x2 :: .ref h1 :: .ref h2 :: .int x3 :: .int x4 :: .int x5 :: .int x6 :: .int x7 :: .int x8 :: .int x9 :: .int x10 :: .int x11 :: [.int x12, .int x13, .int x14, .int x15, .int x16, .int x17, .ref h3, .ref h4, .ref h5, .ref h6, .int x18, .int x19, .int x20, .int x21, .int x22, .int x23, .int x24, .int x25, .ref h7, .int x26, .int x27, .int x28, .int x29, .ref h8, .ref h9, .int x30, .int x31, .long z0, .int x32, .int x33, .ref h10, .ref h11, .ref h12, .ref h13, .ref h14, .int x34, .int x35, .int x36, .int x37, .int x38, .int x39, .int x40, .int x41, .int x42, .ref h15, .ref h16, .int x43, .int x44, .int x45, .int x46, .int x47, .int x48, .int x49, .int x50, .ref h17, .int x51, .int x52, .int x53, .int x54, .int x55])), (h3, .inl (y0, 3, .inl f0)), (h4, .inl (y1, 3, .inl f1)), (h1, .inl (y2, 65536, .inl f2))] s.heap := hP
  have hl := lv_entry ([.ref h0, .int x0, .int x1]) (n := 3) (Nat.le_of_ble_eq_true rfl)
  rw [lg_entry_eq]
  generalize (lg_sl ([.ref h0, .int x0, .int x1]) ++ List.replicate (3 - (lg_sl ([.ref h0, .int x0, .int x1])).length) Slot.unset).toArray = ls at hl ⊢
  have hl : lv_has ls 3 [(0, .ref h0), (1, .int x0), (2, .int x1)] := hl
  generalize ([.ref h0, .int x0, .int x1] : List Value).toArray = ar at hG ⊢
  refine wq (fun Q hQ => ?_)
  refine lv_aload_n hx hb dX12_poke_0 rfl (lv_at hl 0 rfl) ?_
  refine lv_iload_n hx hb dX12_poke_1 rfl (lv_at hl 1 rfl) ?_
  refine lv_if_lt (tgt := 11) hx hb dX12_poke_2 (by decide) (fun c1 => ?_) (fun c1 => ?_)
  · skip
    have j2 : iv x0 (-2147483648) (-1) := iv_ltL (iv_any x0) (by decide : iv 0 0 0) c1 (by decide)
    refine lv_iconst (v := 1) hx hb dX12_poke_11 (by decide) ?_
    refine lv_goto (tgt := 16) hx hb dX12_poke_12 (by decide) ?_
    obtain ⟨hPc, hDc, hFc⟩ := nv_sub3 (wc := [(h0, .inr (12, .int x2 :: .ref h1 :: .ref h2 :: .int x3 :: .int x4 :: .int x5 :: .int x6 :: .int x7 :: .int x8 :: .int x9 :: .int x10 :: .int x11 :: [.int x12, .int x13, .int x14, .int x15, .int x16, .int x17, .ref h3, .ref h4, .ref h5, .ref h6, .int x18, .int x19, .int x20, .int x21, .int x22, .int x23, .int x24, .int x25, .ref h7, .int x26, .int x27, .int x28, .int x29, .ref h8, .ref h9, .int x30, .int x31, .long z0, .int x32, .int x33, .ref h10, .ref h11, .ref h12, .ref h13, .ref h14, .int x34, .int x35, .int x36, .int x37, .int x38, .int x39, .int x40, .int x41, .int x42, .ref h15, .ref h16, .int x43, .int x44, .int x45, .int x46, .int x47, .int x48, .int x49, .int x50, .ref h17, .int x51, .int x52, .int x53, .int x54, .int x55]))]) hP hD hS hA [0] (by decide) rfl
    have hKc := hK.sub (tys' := []) [] rfl
    refine va_calli (va_runV (As := [.int 1]) (rest := []) ⟨hx, hb, hml, hown, hG⟩ (cX12_throwsIf_1 l dC dI h0 h1 h2 h3 h4 h5 h6 h7 h8 h9 h10 h11 h12 h13 h14 h15 h16 h17 s.heap.size x2 x3 x4 x5 x6 x7 x8 x9 x10 x11 x12 x13 x14 x15 x16 x17 x18 x19 x20 x21 x22 x23 x24 x25 x26 x27 x28 x29 x30 x31 x32 x33 x34 x35 x36 x37 x38 x39 x40 x41 x42 x43 x44 x45 x46 x47 x48 x49 x50 x51 x52 x53 x54 x55 z0 ix17 ix18 ix23 ix24 ix25 ix26 ix27 ix28 ix29 ix33 ix34 ix35 ix36 ix37 ix38 ix43 ix44 ix48 ix49 ix51 ix55) (cwV 1 hG (gV wd_1562 wd_1564 wp_71 wd_17 wd_1565) rfl rfl rfl (by decide +kernel) ⟨Nat.le_of_ble_eq_true rfl, Nat.le_of_ble_eq_true rfl⟩) ⟨fun a U g mk q => by obtain ⟨q0, q1, qP, qK, qD⟩ := q; exact ⟨q0, q1, qP, va_K.moved (u := U) (U := U.calling g mk a) (Vm.Alike.refl U.vm) qK, qD⟩, va_recv hKc hPc (ci := 12) (q0 := 0) rfl rfl, fun U hU hW => ⟨rfl, by rw [hU], by rw [hU]; exact hPc, va_K.moved hW.alike hKc, hDc.weaken (fun _ _ _ _ => trivial)⟩⟩ rfl rfl hl.1 rfl (lv_room (Nat.le_of_ble_eq_true rfl)) dX12_poke_16 ⟨by decide, by decide⟩) hS (fun q _ h => hFc q h) hFc (fun r3 u4 t H1 locs ht hvm hw hB hz1 hk1 hS => ?_)
    have hw : r3 = 1 ∧ True := hw
    obtain ⟨er3, -⟩ := hw
    obtain ⟨hP1, hK1, hD1⟩ := hB
    rw [ht] at hP1
    have hK1 := va_K.moved hvm.symm hK1
    obtain ⟨hP, hD⟩ := nv_join (wf := [(h3, .inl (y0, 3, .inl f0)), (h4, .inl (y1, 3, .inl f1)), (h1, .inl (y2, 65536, .inl f2)), (h0, .inr (12, .int 1 :: .ref h1 :: .ref h2 :: .int x3 :: .int x4 :: .int x5 :: .int x6 :: .int x7 :: .int x8 :: .int x9 :: .int x10 :: .int x11 :: [.int x12, .int x13, .int x14, .int x15, .int x16, .int x17, .ref h3, .ref h4, .ref h5, .ref h6, .int x18, .int x19, .int x20, .int x21, .int x22, .int x23, .int x24, .int x25, .ref h7, .int x26, .int x27, .int x28, .int x29, .ref h8, .ref h9, .int x30, .int x31, .long z0, .int x32, .int x33, .ref h10, .ref h11, .ref h12, .ref h13, .ref h14, .int x34, .int x35, .int x36, .int x37, .int x38, .int x39, .int x40, .int x41, .int x42, .ref h15, .ref h16, .int x43, .int x44, .int x45, .int x46, .int x47, .int x48, .int x49, .int x50, .ref h17, .int x51, .int x52, .int x53, .int x54, .int x55]))]) hP hD [0] [1, 2, 3] rfl rfl (by decide) (by decide) hk1 hFc hP1 hD1 rfl
    have hK := (hK.sub (tys' := [(y0, .int), (y1, .int), (y2, .byte)]) [0, 1, 2] rfl).app hK1
    generalize H1 = H at hP hS ⊢
    have hK : va_K (dC, dI) vwCl [(y0, .int), (y1, .int), (y2, .byte)] s := hK
    clear hKc hPc hDc hFc hP1 hD1 hK1 hk1 hz1
    subst er3
    refine lv_if_ne (tgt := 33) hx hb dX12_poke_19 (by decide) (fun _ => ?_) (fun c => absurd c (by decide))
    refine lv_iconst (v := 0) hx hb dX12_poke_33 (by decide) ?_
    rw [hQ]
    obtain ⟨hP9, hD9⟩ := nv_sub2 (wc := [(h0, .inr (12, .int 1 :: .ref h1 :: .ref h2 :: .int x3 :: .int x4 :: .int x5 :: .int x6 :: .int x7 :: .int x8 :: .int x9 :: .int x10 :: .int x11 :: [.int x12, .int x13, .int x14, .int x15, .int x16, .int x17, .ref h3, .ref h4, .ref h5, .ref h6, .int x18, .int x19, .int x20, .int x21, .int x22, .int x23, .int x24, .int x25, .ref h7, .int x26, .int x27, .int x28, .int x29, .ref h8, .ref h9, .int x30, .int x31, .long z0, .int x32, .int x33, .ref h10, .ref h11, .ref h12, .ref h13, .ref h14, .int x34, .int x35, .int x36, .int x37, .int x38, .int x39, .int x40, .int x41, .int x42, .ref h15, .ref h16, .int x43, .int x44, .int x45, .int x46, .int x47, .int x48, .int x49, .int x50, .ref h17, .int x51, .int x52, .int x53, .int x54, .int x55])), (h3, .inl (y0, 3, .inl f0)), (h4, .inl (y1, 3, .inl f1)), (h1, .inl (y2, 65536, .inl f2))]) hP hD [3, 0, 1, 2] (by decide) rfl
    have hK9 := hK.sub (tys' := [(y0, .int), (y1, .int), (y2, .byte)]) [0, 1, 2] rfl
    exact W.zret (v := 0) hx hb hr rfl (fun t ht hW => ⟨⟨0, (1, x4, x5, x6, x7, x8, x9, x10, x11, x12, x13, x14, x15, x16, x17, f0, f1, f2), rfl, ⟨iv_w (by decide : iv 0 0 0) (by decide) (by decide), iv_w (by decide : iv 1 1 1) (by decide) (by decide), iv_w ix17 (by decide) (by decide), (fun j => iv_w (if2 j) (by decide) (by decide)), trivial⟩, by rw [ht]; exact hP9, va_K.moved hW.alike hK9, hD9⟩, hS.F ht⟩) hS.2.2 dX12_poke_34
  · skip
    have j5 : iv x0 0 2147483647 := iv_nltL (iv_any x0) (by decide : iv 0 0 0) c1 (by decide)
    refine lv_iload_n hx hb dX12_poke_5 rfl (lv_at hl 1 rfl) ?_
    refine lv_ldc hx hb hown (hG _ wd_1553) dX12_poke_6 ?_
    refine lv_icmp_le (tgt := 15) hx hb dX12_poke_8 (by decide) (fun c6 => ?_) (fun c6 => ?_)
    · skip
      have j7 : iv x0 0 65535 := iv_leL j5 (by decide : iv 65535 65535 65535) c6 (by decide)
      refine lv_iconst (v := 0) hx hb dX12_poke_15 (by decide) ?_
      obtain ⟨hPc, hDc, hFc⟩ := nv_sub3 (wc := [(h0, .inr (12, .int x2 :: .ref h1 :: .ref h2 :: .int x3 :: .int x4 :: .int x5 :: .int x6 :: .int x7 :: .int x8 :: .int x9 :: .int x10 :: .int x11 :: [.int x12, .int x13, .int x14, .int x15, .int x16, .int x17, .ref h3, .ref h4, .ref h5, .ref h6, .int x18, .int x19, .int x20, .int x21, .int x22, .int x23, .int x24, .int x25, .ref h7, .int x26, .int x27, .int x28, .int x29, .ref h8, .ref h9, .int x30, .int x31, .long z0, .int x32, .int x33, .ref h10, .ref h11, .ref h12, .ref h13, .ref h14, .int x34, .int x35, .int x36, .int x37, .int x38, .int x39, .int x40, .int x41, .int x42, .ref h15, .ref h16, .int x43, .int x44, .int x45, .int x46, .int x47, .int x48, .int x49, .int x50, .ref h17, .int x51, .int x52, .int x53, .int x54, .int x55]))]) hP hD hS hA [0] (by decide) rfl
      have hKc := hK.sub (tys' := []) [] rfl
      refine va_calli (va_runV (As := [.int 0]) (rest := []) ⟨hx, hb, hml, hown, hG⟩ (cX12_throwsIf_2 l dC dI h0 h1 h2 h3 h4 h5 h6 h7 h8 h9 h10 h11 h12 h13 h14 h15 h16 h17 s.heap.size x2 x3 x4 x5 x6 x7 x8 x9 x10 x11 x12 x13 x14 x15 x16 x17 x18 x19 x20 x21 x22 x23 x24 x25 x26 x27 x28 x29 x30 x31 x32 x33 x34 x35 x36 x37 x38 x39 x40 x41 x42 x43 x44 x45 x46 x47 x48 x49 x50 x51 x52 x53 x54 x55 z0 ix17 ix18 ix23 ix24 ix25 ix26 ix27 ix28 ix29 ix33 ix34 ix35 ix36 ix37 ix38 ix43 ix44 ix48 ix49 ix51 ix55) (cwV 1 hG (gV wd_1562 wd_1564 wp_71 wd_17 wd_1565) rfl rfl rfl (by decide +kernel) ⟨Nat.le_of_ble_eq_true rfl, Nat.le_of_ble_eq_true rfl⟩) ⟨fun a U g mk q => by obtain ⟨q0, q1, qP, qK, qD⟩ := q; exact ⟨q0, q1, qP, va_K.moved (u := U) (U := U.calling g mk a) (Vm.Alike.refl U.vm) qK, qD⟩, va_recv hKc hPc (ci := 12) (q0 := 0) rfl rfl, fun U hU hW => ⟨rfl, by rw [hU], by rw [hU]; exact hPc, va_K.moved hW.alike hKc, hDc.weaken (fun _ _ _ _ => trivial)⟩⟩ rfl rfl hl.1 rfl (lv_room (Nat.le_of_ble_eq_true rfl)) dX12_poke_16 ⟨by decide, by decide⟩) hS (fun q _ h => hFc q h) hFc (fun r8 u9 t H1 locs ht hvm hw hB hz1 hk1 hS => ?_)
      have hw : r8 = 0 ∧ True := hw
      obtain ⟨er8, -⟩ := hw
      obtain ⟨hP1, hK1, hD1⟩ := hB
      rw [ht] at hP1
      have hK1 := va_K.moved hvm.symm hK1
      obtain ⟨hP, hD⟩ := nv_join (wf := [(h3, .inl (y0, 3, .inl f0)), (h4, .inl (y1, 3, .inl f1)), (h1, .inl (y2, 65536, .inl f2)), (h0, .inr (12, .int 0 :: .ref h1 :: .ref h2 :: .int x3 :: .int x4 :: .int x5 :: .int x6 :: .int x7 :: .int x8 :: .int x9 :: .int x10 :: .int x11 :: [.int x12, .int x13, .int x14, .int x15, .int x16, .int x17, .ref h3, .ref h4, .ref h5, .ref h6, .int x18, .int x19, .int x20, .int x21, .int x22, .int x23, .int x24, .int x25, .ref h7, .int x26, .int x27, .int x28, .int x29, .ref h8, .ref h9, .int x30, .int x31, .long z0, .int x32, .int x33, .ref h10, .ref h11, .ref h12, .ref h13, .ref h14, .int x34, .int x35, .int x36, .int x37, .int x38, .int x39, .int x40, .int x41, .int x42, .ref h15, .ref h16, .int x43, .int x44, .int x45, .int x46, .int x47, .int x48, .int x49, .int x50, .ref h17, .int x51, .int x52, .int x53, .int x54, .int x55]))]) hP hD [0] [1, 2, 3] rfl rfl (by decide) (by decide) hk1 hFc hP1 hD1 rfl
      have hK := (hK.sub (tys' := [(y0, .int), (y1, .int), (y2, .byte)]) [0, 1, 2] rfl).app hK1
      generalize H1 = H at hP hS ⊢
      have hK : va_K (dC, dI) vwCl [(y0, .int), (y1, .int), (y2, .byte)] s := hK
      clear hKc hPc hDc hFc hP1 hD1 hK1 hk1 hz1
      subst er8
      refine lv_if_ne (tgt := 33) hx hb dX12_poke_19 (by decide) (fun c => absurd (by decide) c) (fun _ => ?_)
      refine lv_iload_n hx hb dX12_poke_22 rfl (lv_at hl 2 rfl) ?_
      refine lv_if_lt (tgt := 33) hx hb dX12_poke_23 (by decide) (fun c10 => ?_) (fun c10 => ?_)
      · skip
        have j11 : iv x1 (-2147483648) (-1) := iv_ltL (iv_any x1) (by decide : iv 0 0 0) c10 (by decide)
        refine lv_iconst (v := 0) hx hb dX12_poke_33 (by decide) ?_
        rw [hQ]
        obtain ⟨hP9, hD9⟩ := nv_sub2 (wc := [(h0, .inr (12, .int 0 :: .ref h1 :: .ref h2 :: .int x3 :: .int x4 :: .int x5 :: .int x6 :: .int x7 :: .int x8 :: .int x9 :: .int x10 :: .int x11 :: [.int x12, .int x13, .int x14, .int x15, .int x16, .int x17, .ref h3, .ref h4, .ref h5, .ref h6, .int x18, .int x19, .int x20, .int x21, .int x22, .int x23, .int x24, .int x25, .ref h7, .int x26, .int x27, .int x28, .int x29, .ref h8, .ref h9, .int x30, .int x31, .long z0, .int x32, .int x33, .ref h10, .ref h11, .ref h12, .ref h13, .ref h14, .int x34, .int x35, .int x36, .int x37, .int x38, .int x39, .int x40, .int x41, .int x42, .ref h15, .ref h16, .int x43, .int x44, .int x45, .int x46, .int x47, .int x48, .int x49, .int x50, .ref h17, .int x51, .int x52, .int x53, .int x54, .int x55])), (h3, .inl (y0, 3, .inl f0)), (h4, .inl (y1, 3, .inl f1)), (h1, .inl (y2, 65536, .inl f2))]) hP hD [3, 0, 1, 2] (by decide) rfl
        have hK9 := hK.sub (tys' := [(y0, .int), (y1, .int), (y2, .byte)]) [0, 1, 2] rfl
        exact W.zret (v := 0) hx hb hr rfl (fun t ht hW => ⟨⟨0, (0, x4, x5, x6, x7, x8, x9, x10, x11, x12, x13, x14, x15, x16, x17, f0, f1, f2), rfl, ⟨iv_w (by decide : iv 0 0 0) (by decide) (by decide), iv_w (by decide : iv 0 0 0) (by decide) (by decide), iv_w ix17 (by decide) (by decide), (fun j => iv_w (if2 j) (by decide) (by decide)), trivial⟩, by rw [ht]; exact hP9, va_K.moved hW.alike hK9, hD9⟩, hS.F ht⟩) hS.2.2 dX12_poke_34
      · skip
        have j12 : iv x1 0 2147483647 := iv_nltL (iv_any x1) (by decide : iv 0 0 0) c10 (by decide)
        refine lv_iload_n hx hb dX12_poke_26 rfl (lv_at hl 2 rfl) ?_
        refine lv_sipush (v := 255) hx hb dX12_poke_27 (by decide) ?_
        refine lv_icmp_le (tgt := 35) hx hb dX12_poke_30 (by decide) (fun c13 => ?_) (fun c13 => ?_)
        · skip
          have j14 : iv x1 0 255 := iv_leL j12 (by decide : iv 255 255 255) c13 (by decide)
          refine lv_aload_n hx hb dX12_poke_35 rfl (lv_at hl 0 rfl) ?_
          refine lv_iload_n hx hb dX12_poke_36 rfl (lv_at hl 1 rfl) ?_
          refine lv_iload_n hx hb dX12_poke_37 rfl (lv_at hl 2 rfl) ?_
          obtain ⟨hPc, hDc, hFc⟩ := nv_sub3 (wc := [(h0, .inr (12, .int 0 :: .ref h1 :: .ref h2 :: .int x3 :: .int x4 :: .int x5 :: .int x6 :: .int x7 :: .int x8 :: .int x9 :: .int x10 :: .int x11 :: [.int x12, .int x13, .int x14, .int x15, .int x16, .int x17, .ref h3, .ref h4, .ref h5, .ref h6, .int x18, .int x19, .int x20, .int x21, .int x22, .int x23, .int x24, .int x25, .ref h7, .int x26, .int x27, .int x28, .int x29, .ref h8, .ref h9, .int x30, .int x31, .long z0, .int x32, .int x33, .ref h10, .ref h11, .ref h12, .ref h13, .ref h14, .int x34, .int x35, .int x36, .int x37, .int x38, .int x39, .int x40, .int x41, .int x42, .ref h15, .ref h16, .int x43, .int x44, .int x45, .int x46, .int x47, .int x48, .int x49, .int x50, .ref h17, .int x51, .int x52, .int x53, .int x54, .int x55])), (h3, .inl (y0, 3, .inl f0)), (h4, .inl (y1, 3, .inl f1)), (h1, .inl (y2, 65536, .inl f2))]) hP hD hS hA [3, 0, 1, 2] (by decide) rfl
          have hKc := hK.sub (tys' := [(y0, .int), (y1, .int), (y2, .byte)]) [0, 1, 2] rfl
          refine va_callv (va_runV (As := [.int x0, .int x1]) (rest := []) ⟨hx, hb, hml, hown, hG⟩ (cX12_writeByte_1 l dC dI h0 h1 h2 h3 h4 h5 h6 h7 h8 h9 h10 h11 h12 h13 h14 h15 h16 h17 y0 y1 y2 H.size x0 x1 0 x3 x4 x5 x6 x7 x8 x9 x10 x11 x12 x13 x14 x15 x16 x17 x18 x19 x20 x21 x22 x23 x24 x25 x26 x27 x28 x29 x30 x31 x32 x33 x34 x35 x36 x37 x38 x39 x40 x41 x42 x43 x44 x45 x46 x47 x48 x49 x50 x51 x52 x53 x54 x55 z0 f0 f1 f2 j7 ix17 ix18 ix23 ix24 ix25 ix26 ix27 ix28 ix29 ix33 ix34 ix35 ix36 ix37 ix38 ix43 ix44 ix48 ix49 ix51 ix55 if2) (cwV 2 hG (gV wd_1607 wd_1609 wp_81 wd_17 wd_1610) rfl rfl rfl (by decide +kernel) ⟨Nat.le_of_ble_eq_true rfl, Nat.le_of_ble_eq_true rfl⟩) ⟨fun a U g mk q => by obtain ⟨q0, q1, qP, qK, qD⟩ := q; exact ⟨q0, q1, qP, va_K.moved (u := U) (U := U.calling g mk a) (Vm.Alike.refl U.vm) qK, qD⟩, va_recv hKc hPc (ci := 12) (q0 := 0) rfl rfl, fun U hU hW => ⟨rfl, by rw [hU], by rw [hU]; exact hPc, va_K.moved hW.alike hKc, hDc.weaken (fun _ _ _ _ => trivial)⟩⟩ rfl rfl hl.1 rfl (lv_room (Nat.le_of_ble_eq_true rfl)) dX12_poke_38 ⟨by decide, by decide⟩) hS (fun q _ h => hFc q h) hFc (fun u16 t H1 locs ht hvm hw hB hz1 hk1 hS => ?_)
          obtain ⟨u16_0, u16_1, u16_2, u16_3, u16_4, u16_5, u16_6, u16_7, u16_8, u16_9, u16_10, u16_11, u16_12, u16_13, u16_14, u16_15, u16_16⟩ := u16
          have hw : iv u16_13 0 1 ∧ (∀ j, iv (u16_16 j) (-128) 127) ∧ True := hw
          obtain ⟨iu16_13, iu16_16, -⟩ := hw
          obtain ⟨hP1, hK1, hD1⟩ := hB
          rw [ht] at hP1
          have hK1 := va_K.moved hvm.symm hK1
          obtain ⟨hP, hD⟩ := nv_join (wf := [(h0, .inr (12, .int 0 :: .ref h1 :: .ref h2 :: .int x3 :: .int u16_0 :: .int u16_1 :: .int u16_2 :: .int u16_3 :: .int u16_4 :: .int u16_5 :: .int u16_6 :: .int u16_7 :: [.int u16_8, .int u16_9, .int u16_10, .int u16_11, .int u16_12, .int u16_13, .ref h3, .ref h4, .ref h5, .ref h6, .int x18, .int x19, .int x20, .int x21, .int x22, .int x23, .int x24, .int x25, .ref h7, .int x26, .int x27, .int x28, .int x29, .ref h8, .ref h9, .int x30, .int x31, .long z0, .int x32, .int x33, .ref h10, .ref h11, .ref h12, .ref h13, .ref h14, .int x34, .int x35, .int x36, .int x37, .int x38, .int x39, .int x40, .int x41, .int x42, .ref h15, .ref h16, .int x43, .int x44, .int x45, .int x46, .int x47, .int x48, .int x49, .int x50, .ref h17, .int x51, .int x52, .int x53, .int x54, .int x55])), (h3, .inl (y0, 3, .inl u16_14)), (h4, .inl (y1, 3, .inl u16_15)), (h1, .inl (y2, 65536, .inl u16_16))]) hP hD [3, 0, 1, 2] [] rfl rfl (by decide) (by decide) hk1 hFc hP1 hD1 rfl
          have hK := (hK.sub (tys' := []) [] rfl).app hK1
          generalize H1 = H at hP hS ⊢
          have hK : va_K (dC, dI) vwCl [(y0, .int), (y1, .int), (y2, .byte)] s := hK
          clear hKc hPc hDc hFc hP1 hD1 hK1 hk1 hz1
          refine lv_iconst (v := 1) hx hb dX12_poke_41 (by decide) ?_
          rw [hQ]
          obtain ⟨hP9, hD9⟩ := nv_sub2 (wc := [(h0, .inr (12, .int 0 :: .ref h1 :: .ref h2 :: .int x3 :: .int u16_0 :: .int u16_1 :: .int u16_2 :: .int u16_3 :: .int u16_4 :: .int u16_5 :: .int u16_6 :: .int u16_7 :: [.int u16_8, .int u16_9, .int u16_10, .int u16_11, .int u16_12, .int u16_13, .ref h3, .ref h4, .ref h5, .ref h6, .int x18, .int x19, .int x20, .int x21, .int x22, .int x23, .int x24, .int x25, .ref h7, .int x26, .int x27, .int x28, .int x29, .ref h8, .ref h9, .int x30, .int x31, .long z0, .int x32, .int x33, .ref h10, .ref h11, .ref h12, .ref h13, .ref h14, .int x34, .int x35, .int x36, .int x37, .int x38, .int x39, .int x40, .int x41, .int x42, .ref h15, .ref h16, .int x43, .int x44, .int x45, .int x46, .int x47, .int x48, .int x49, .int x50, .ref h17, .int x51, .int x52, .int x53, .int x54, .int x55])), (h3, .inl (y0, 3, .inl u16_14)), (h4, .inl (y1, 3, .inl u16_15)), (h1, .inl (y2, 65536, .inl u16_16))]) hP hD [0, 1, 2, 3] (by decide) rfl
          have hK9 := hK.sub (tys' := [(y0, .int), (y1, .int), (y2, .byte)]) [0, 1, 2] rfl
          exact W.zret (v := 1) hx hb hr rfl (fun t ht hW => ⟨⟨1, (0, u16_0, u16_1, u16_2, u16_3, u16_4, u16_5, u16_6, u16_7, u16_8, u16_9, u16_10, u16_11, u16_12, u16_13, u16_14, u16_15, u16_16), rfl, ⟨iv_w (by decide : iv 1 1 1) (by decide) (by decide), iv_w (by decide : iv 0 0 0) (by decide) (by decide), iv_w iu16_13 (by decide) (by decide), (fun j => iv_w (iu16_16 j) (by decide) (by decide)), trivial⟩, by rw [ht]; exact hP9, va_K.moved hW.alike hK9, hD9⟩, hS.F ht⟩) hS.2.2 dX12_poke_42
        · skip
          have j17 : iv x1 256 2147483647 := iv_nleL j12 (by decide : iv 255 255 255) c13 (by decide)
          refine lv_iconst (v := 0) hx hb dX12_poke_33 (by decide) ?_
          rw [hQ]
          obtain ⟨hP9, hD9⟩ := nv_sub2 (wc := [(h0, .inr (12, .int 0 :: .ref h1 :: .ref h2 :: .int x3 :: .int x4 :: .int x5 :: .int x6 :: .int x7 :: .int x8 :: .int x9 :: .int x10 :: .int x11 :: [.int x12, .int x13, .int x14, .int x15, .int x16, .int x17, .ref h3, .ref h4, .ref h5, .ref h6, .int x18, .int x19, .int x20, .int x21, .int x22, .int x23, .int x24, .int x25, .ref h7, .int x26, .int x27, .int x28, .int x29, .ref h8, .ref h9, .int x30, .int x31, .long z0, .int x32, .int x33, .ref h10, .ref h11, .ref h12, .ref h13, .ref h14, .int x34, .int x35, .int x36, .int x37, .int x38, .int x39, .int x40, .int x41, .int x42, .ref h15, .ref h16, .int x43, .int x44, .int x45, .int x46, .int x47, .int x48, .int x49, .int x50, .ref h17, .int x51, .int x52, .int x53, .int x54, .int x55])), (h3, .inl (y0, 3, .inl f0)), (h4, .inl (y1, 3, .inl f1)), (h1, .inl (y2, 65536, .inl f2))]) hP hD [3, 0, 1, 2] (by decide) rfl
          have hK9 := hK.sub (tys' := [(y0, .int), (y1, .int), (y2, .byte)]) [0, 1, 2] rfl
          exact W.zret (v := 0) hx hb hr rfl (fun t ht hW => ⟨⟨0, (0, x4, x5, x6, x7, x8, x9, x10, x11, x12, x13, x14, x15, x16, x17, f0, f1, f2), rfl, ⟨iv_w (by decide : iv 0 0 0) (by decide) (by decide), iv_w (by decide : iv 0 0 0) (by decide) (by decide), iv_w ix17 (by decide) (by decide), (fun j => iv_w (if2 j) (by decide) (by decide)), trivial⟩, by rw [ht]; exact hP9, va_K.moved hW.alike hK9, hD9⟩, hS.F ht⟩) hS.2.2 dX12_poke_34
    · skip
      have j18 : iv x0 65536 2147483647 := iv_nleL j5 (by decide : iv 65535 65535 65535) c6 (by decide)
      refine lv_iconst (v := 1) hx hb dX12_poke_11 (by decide) ?_
      refine lv_goto (tgt := 16) hx hb dX12_poke_12 (by decide) ?_
      obtain ⟨hPc, hDc, hFc⟩ := nv_sub3 (wc := [(h0, .inr (12, .int x2 :: .ref h1 :: .ref h2 :: .int x3 :: .int x4 :: .int x5 :: .int x6 :: .int x7 :: .int x8 :: .int x9 :: .int x10 :: .int x11 :: [.int x12, .int x13, .int x14, .int x15, .int x16, .int x17, .ref h3, .ref h4, .ref h5, .ref h6, .int x18, .int x19, .int x20, .int x21, .int x22, .int x23, .int x24, .int x25, .ref h7, .int x26, .int x27, .int x28, .int x29, .ref h8, .ref h9, .int x30, .int x31, .long z0, .int x32, .int x33, .ref h10, .ref h11, .ref h12, .ref h13, .ref h14, .int x34, .int x35, .int x36, .int x37, .int x38, .int x39, .int x40, .int x41, .int x42, .ref h15, .ref h16, .int x43, .int x44, .int x45, .int x46, .int x47, .int x48, .int x49, .int x50, .ref h17, .int x51, .int x52, .int x53, .int x54, .int x55]))]) hP hD hS hA [0] (by decide) rfl
      have hKc := hK.sub (tys' := []) [] rfl
      refine va_calli (va_runV (As := [.int 1]) (rest := []) ⟨hx, hb, hml, hown, hG⟩ (cX12_throwsIf_1 l dC dI h0 h1 h2 h3 h4 h5 h6 h7 h8 h9 h10 h11 h12 h13 h14 h15 h16 h17 s.heap.size x2 x3 x4 x5 x6 x7 x8 x9 x10 x11 x12 x13 x14 x15 x16 x17 x18 x19 x20 x21 x22 x23 x24 x25 x26 x27 x28 x29 x30 x31 x32 x33 x34 x35 x36 x37 x38 x39 x40 x41 x42 x43 x44 x45 x46 x47 x48 x49 x50 x51 x52 x53 x54 x55 z0 ix17 ix18 ix23 ix24 ix25 ix26 ix27 ix28 ix29 ix33 ix34 ix35 ix36 ix37 ix38 ix43 ix44 ix48 ix49 ix51 ix55) (cwV 1 hG (gV wd_1562 wd_1564 wp_71 wd_17 wd_1565) rfl rfl rfl (by decide +kernel) ⟨Nat.le_of_ble_eq_true rfl, Nat.le_of_ble_eq_true rfl⟩) ⟨fun a U g mk q => by obtain ⟨q0, q1, qP, qK, qD⟩ := q; exact ⟨q0, q1, qP, va_K.moved (u := U) (U := U.calling g mk a) (Vm.Alike.refl U.vm) qK, qD⟩, va_recv hKc hPc (ci := 12) (q0 := 0) rfl rfl, fun U hU hW => ⟨rfl, by rw [hU], by rw [hU]; exact hPc, va_K.moved hW.alike hKc, hDc.weaken (fun _ _ _ _ => trivial)⟩⟩ rfl rfl hl.1 rfl (lv_room (Nat.le_of_ble_eq_true rfl)) dX12_poke_16 ⟨by decide, by decide⟩) hS (fun q _ h => hFc q h) hFc (fun r19 u20 t H1 locs ht hvm hw hB hz1 hk1 hS => ?_)
      have hw : r19 = 1 ∧ True := hw
      obtain ⟨er19, -⟩ := hw
      obtain ⟨hP1, hK1, hD1⟩ := hB
      rw [ht] at hP1
      have hK1 := va_K.moved hvm.symm hK1
      obtain ⟨hP, hD⟩ := nv_join (wf := [(h3, .inl (y0, 3, .inl f0)), (h4, .inl (y1, 3, .inl f1)), (h1, .inl (y2, 65536, .inl f2)), (h0, .inr (12, .int 1 :: .ref h1 :: .ref h2 :: .int x3 :: .int x4 :: .int x5 :: .int x6 :: .int x7 :: .int x8 :: .int x9 :: .int x10 :: .int x11 :: [.int x12, .int x13, .int x14, .int x15, .int x16, .int x17, .ref h3, .ref h4, .ref h5, .ref h6, .int x18, .int x19, .int x20, .int x21, .int x22, .int x23, .int x24, .int x25, .ref h7, .int x26, .int x27, .int x28, .int x29, .ref h8, .ref h9, .int x30, .int x31, .long z0, .int x32, .int x33, .ref h10, .ref h11, .ref h12, .ref h13, .ref h14, .int x34, .int x35, .int x36, .int x37, .int x38, .int x39, .int x40, .int x41, .int x42, .ref h15, .ref h16, .int x43, .int x44, .int x45, .int x46, .int x47, .int x48, .int x49, .int x50, .ref h17, .int x51, .int x52, .int x53, .int x54, .int x55]))]) hP hD [0] [1, 2, 3] rfl rfl (by decide) (by decide) hk1 hFc hP1 hD1 rfl
      have hK := (hK.sub (tys' := [(y0, .int), (y1, .int), (y2, .byte)]) [0, 1, 2] rfl).app hK1
      generalize H1 = H at hP hS ⊢
      have hK : va_K (dC, dI) vwCl [(y0, .int), (y1, .int), (y2, .byte)] s := hK
      clear hKc hPc hDc hFc hP1 hD1 hK1 hk1 hz1
      subst er19
      refine lv_if_ne (tgt := 33) hx hb dX12_poke_19 (by decide) (fun _ => ?_) (fun c => absurd c (by decide))
      refine lv_iconst (v := 0) hx hb dX12_poke_33 (by decide) ?_
      rw [hQ]
      obtain ⟨hP9, hD9⟩ := nv_sub2 (wc := [(h0, .inr (12, .int 1 :: .ref h1 :: .ref h2 :: .int x3 :: .int x4 :: .int x5 :: .int x6 :: .int x7 :: .int x8 :: .int x9 :: .int x10 :: .int x11 :: [.int x12, .int x13, .int x14, .int x15, .int x16, .int x17, .ref h3, .ref h4, .ref h5, .ref h6, .int x18, .int x19, .int x20, .int x21, .int x22, .int x23, .int x24, .int x25, .ref h7, .int x26, .int x27, .int x28, .int x29, .ref h8, .ref h9, .int x30, .int x31, .long z0, .int x32, .int x33, .ref h10, .ref h11, .ref h12, .ref h13, .ref h14, .int x34, .int x35, .int x36, .int x37, .int x38, .int x39, .int x40, .int x41, .int x42, .ref h15, .ref h16, .int x43, .int x44, .int x45, .int x46, .int x47, .int x48, .int x49, .int x50, .ref h17, .int x51, .int x52, .int x53, .int x54, .int x55])), (h3, .inl (y0, 3, .inl f0)), (h4, .inl (y1, 3, .inl f1)), (h1, .inl (y2, 65536, .inl f2))]) hP hD [3, 0, 1, 2] (by decide) rfl
      have hK9 := hK.sub (tys' := [(y0, .int), (y1, .int), (y2, .byte)]) [0, 1, 2] rfl
      exact W.zret (v := 0) hx hb hr rfl (fun t ht hW => ⟨⟨0, (1, x4, x5, x6, x7, x8, x9, x10, x11, x12, x13, x14, x15, x16, x17, f0, f1, f2), rfl, ⟨iv_w (by decide : iv 0 0 0) (by decide) (by decide), iv_w (by decide : iv 1 1 1) (by decide) (by decide), iv_w ix17 (by decide) (by decide), (fun j => iv_w (if2 j) (by decide) (by decide)), trivial⟩, by rw [ht]; exact hP9, va_K.moved hW.alike hK9, hD9⟩, hS.F ht⟩) hS.2.2 dX12_poke_34
set_option maxHeartbeats 100000000 in
set_option maxRecDepth 100000 in
theorem cX11_poke_2 (l : Launch) (hst : l.stackTraces = false) (dC : Nat → ClassId) (dI : Nat → Nat → Nat) (adK adV : Nat → Nat) (h0 h1 h2 h3 h4 h5 : Nat) (sz : Nat) (x0 x1 x2 x3 : Int32) (ix0 : iv x0 65536 2147483647) (ix2 : iv x2 0 2600) : vx_Met l yX11_poke (Cond.code yX11_poke cX11_poke 3 (some .boolean) :: lw_G) ({ frames := 6, cells := 1, slots := 6, locals := 82 }) (va_Pc [.ref h0, .int x0, .int x1] (fun U => U.heap.size = sz ∧ va_P (dC, dI) vwCl [(h0, .inr (11, [.ref h1, .ref h2, .ref h3, .ref h4, .ref h5, .int x2, .int x3]))] U.heap ∧ va_K (dC, dI) vwCl [] U ∧ va_D (fun _ => True) [(h0, .inr (11, [.ref h1, .ref h2, .ref h3, .ref h4, .ref h5, .int x2, .int x3]))] ∧ ev adK adV (va_A [(h0, .inr (11, [.ref h1, .ref h2, .ref h3, .ref h4, .ref h5, .int x2, .int x3]))] sz) U U.heap)) (va_Qi (fun (_ : Int32) (_ : Unit) => False) (fun _ _ => True) (va_A [(h0, .inr (11, [.ref h1, .ref h2, .ref h3, .ref h4, .ref h5, .int x2, .int x3]))] sz)) (vx_X (fun (_ : Unit) => True) (fun (E : String) (_ : Unit) (t : State) => E = "java/lang/IndexOutOfBoundsException" ∧ va_P (dC, dI) vwCl [(h0, .inr (11, [.ref h1, .ref h2, .ref h3, .ref h4, .ref h5, .int x2, .int x3]))] t.heap ∧ va_K (dC, dI) vwCl [] t ∧ va_D (va_A [(h0, .inr (11, [.ref h1, .ref h2, .ref h3, .ref h4, .ref h5, .int x2, .int x3]))] sz) [(h0, .inr (11, [.ref h1, .ref h2, .ref h3, .ref h4, .ref h5, .int x2, .int x3]))]) (va_A [(h0, .inr (11, [.ref h1, .ref h2, .ref h3, .ref h4, .ref h5, .int x2, .int x3]))] sz)) 1 6 (va_A [(h0, .inr (11, [.ref h1, .ref h2, .ref h3, .ref h4, .ref h5, .int x2, .int x3]))] sz) := by
  refine vx_ofW (cc := cX11_poke) (maxL := 3) (ret := (some .boolean)) (by decide) rfl ?_
  intro p e s m args below meth c s₁ B hml htab hv
  obtain ⟨rfl, hsz, hP, hK, hD0, hE⟩ := hv
  have hx := B.exec
  have hb := B.bytes
  have hr := B.returns
  have hts0 := atoms_spec (ws := Cond.code yX11_poke cX11_poke 3 (some .boolean) :: lw_G) B.pre
  have hG : ∀ w ∈ lw_G, w.before _ s = true := fun w h => hts0 w (List.mem_cons_of_mem _ h)
  have hown : s.vm.findClass RX11 = some m.cls := findClass_of_methodNamed B.named
  have hlocks := B.notSynchronized
  subst hsz
  have hD := hD0.self (sz := s.heap.size)
  generalize hAe : va_A [(h0, .inr (11, [.ref h1, .ref h2, .ref h3, .ref h4, .ref h5, .int x2, .int x3]))] s.heap.size = A at hD hE ⊢
  have hA : ∀ q : Nat, s.heap.size ≤ q → A q := fun q h => by rw [← hAe]; exact Or.inr h
  have hS : va_S A s.heap s.heap [] := va_S.rf
  have hP : va_P (dC, dI) vwCl [(h0, .inr (11, [.ref h1, .ref h2, .ref h3, .ref h4, .ref h5, .int x2, .int x3]))] s.heap := hP
  have hl := lv_entry ([.ref h0, .int x0, .int x1]) (n := 3) (Nat.le_of_ble_eq_true rfl)
  rw [lg_entry_eq]
  generalize (lg_sl ([.ref h0, .int x0, .int x1]) ++ List.replicate (3 - (lg_sl ([.ref h0, .int x0, .int x1])).length) Slot.unset).toArray = ls at hl ⊢
  have hl : lv_has ls 3 [(0, .ref h0), (1, .int x0), (2, .int x1)] := hl
  refine lv_iload_n hx hb dX11_poke_0 rfl (lv_at hl 1 rfl) ?_
  refine lv_if_lt (tgt := 10) hx hb dX11_poke_1 (by decide) (fun c => absurd c (iv_nlt ix0 (by decide : iv 0 0 0) (by decide))) (fun _ => ?_)
  refine lv_iload_n hx hb dX11_poke_4 rfl (lv_at hl 1 rfl) ?_
  refine lv_ldc hx hb hown (hG _ wd_1157) dX11_poke_5 ?_
  refine lv_icmp_lt (tgt := 20) hx hb dX11_poke_7 (by decide) (fun c => absurd c (iv_nlt ix0 (by decide : iv 65536 65536 65536) (by decide))) (fun _ => ?_)
  obtain ⟨hP9, hD9⟩ := nv_sub2 (wc := [(h0, .inr (11, [.ref h1, .ref h2, .ref h3, .ref h4, .ref h5, .int x2, .int x3]))]) hP hD [0] (by decide) rfl
  have hK9 := hK.sub (tys' := []) [] rfl
  refine vx_throwS (own := RX11) (cls := "java/lang/IndexOutOfBoundsException") (text := evT4) (names := ["java/lang/RuntimeException", "java/lang/Exception"]) hx hb hst hown (by decide) (by decide) (hG _ wd_1126) (hG _ wd_24) (evR4 hE) (evA1 hE hG) evG1_106 hE.2.2.2.1 hE.2.2.2.2.1 hS (by rw [hml]; exact hl.1) dX11_poke_10 dX11_poke_13 dX11_poke_14 dX11_poke_16 dX11_poke_19 (fun x hx9 => (htab x hx9).elim) (by decide) (by decide) (by decide) (by decide) hlocks (fun t hvm9 hz9 hk9 => ⟨(), trivial, ⟨rfl, hP9.kept (fun k q hk => hk9 q.1 (vx_lt hP9 hk)), va_K.moved hvm9 hK9, hD9⟩, Nat.le_trans hS.1 hz9, fun q hq hA9 => (hk9 q (Nat.lt_of_lt_of_le hq hS.1)).trans (hS.2.1 q hq hA9)⟩) hS.2.2 (by decide) (by decide)
set_option maxHeartbeats 100000000 in
set_option maxRecDepth 100000 in
theorem cL_poke_2 (l : Launch) (hst : l.stackTraces = false) (dC : Nat → ClassId) (dI : Nat → Nat → Nat) (adK adV : Nat → Nat) (h0 h1 h2 h3 h4 h5 h6 : Nat) (sz : Nat) (x0 x1 x2 x3 : Int32) (ix0 : iv x0 65536 2147483647) (ix2 : iv x2 0 2600) : Met l yL_poke (Cond.codeWith yL_poke cL_poke 5 (some .int) [(0, 17, 20, 19)] :: lw_G) ({ frames := 7, cells := 1, slots := 6, locals := 104 }) (va_Pc [.ref h0, .int x0, .int x1, .ref h1] (fun U => U.heap.size = sz ∧ va_P (dC, dI) vwCl [(h0, .inr (11, [.ref h2, .ref h3, .ref h4, .ref h5, .ref h6, .int x2, .int x3]))] U.heap ∧ va_K (dC, dI) vwCl [] U ∧ va_D (fun _ => True) [(h0, .inr (11, [.ref h2, .ref h3, .ref h4, .ref h5, .ref h6, .int x2, .int x3]))] ∧ ev adK adV (va_A [(h0, .inr (11, [.ref h2, .ref h3, .ref h4, .ref h5, .ref h6, .int x2, .int x3]))] sz) U U.heap)) (va_Qi (fun (r : Int32) (u : Unit) => r = 1 ∧ True) (fun (u : Unit) (t : State) => va_P (dC, dI) vwCl [(h0, .inr (11, [.ref h2, .ref h3, .ref h4, .ref h5, .ref h6, .int x2, .int x3]))] t.heap ∧ va_K (dC, dI) vwCl [] t ∧ va_D (va_A [(h0, .inr (11, [.ref h2, .ref h3, .ref h4, .ref h5, .ref h6, .int x2, .int x3]))] sz) [(h0, .inr (11, [.ref h2, .ref h3, .ref h4, .ref h5, .ref h6, .int x2, .int x3]))]) (va_A [(h0, .inr (11, [.ref h2, .ref h3, .ref h4, .ref h5, .ref h6, .int x2, .int x3]))] sz)) 1 6 (va_A [(h0, .inr (11, [.ref h2, .ref h3, .ref h4, .ref h5, .ref h6, .int x2, .int x3]))] sz) := by
  refine va_MetW (cc := cL_poke) (maxL := 5) (ret := (some .int)) (by decide) rfl ?_
  intro p e s m args below meth c s₁ B hml hv
  obtain ⟨rfl, hsz, hP, hK, hD0, hE⟩ := hv
  have hx := B.exec
  have hb := B.bytes
  have hr := B.returns
  have hts0 := atoms_spec (ws := Cond.codeWith yL_poke cL_poke 5 (some .int) [(0, 17, 20, 19)] :: lw_G) B.pre
  have htab := vx_table (x := x) B (hts0 _ List.mem_cons_self)
  have hG : ∀ w ∈ lw_G, w.before _ s = true := fun w h => hts0 w (List.mem_cons_of_mem _ h)
  have hown : s.vm.findClass RL = some m.cls := findClass_of_methodNamed B.named
  have hlocks := B.notSynchronized
  subst hsz
  have hD := hD0.self (sz := s.heap.size)
  generalize hAe : va_A [(h0, .inr (11, [.ref h2, .ref h3, .ref h4, .ref h5, .ref h6, .int x2, .int x3]))] s.heap.size = A at hD hE ⊢
  have hA : ∀ q : Nat, s.heap.size ≤ q → A q := fun q h => by rw [← hAe]; exact Or.inr h
  have hS : va_S A s.heap s.heap [] := va_S.rf
  have hP : va_P (dC, dI) vwCl [(h0, .inr (11, [.ref h2, .ref h3, .ref h4, .ref h5, .ref h6, .int x2, .int x3]))] s.heap := hP
  have hl := lv_entry ([.ref h0, .int x0, .int x1, .ref h1]) (n := 5) (Nat.le_of_ble_eq_true rfl)
  rw [lg_entry_eq]
  generalize (lg_sl ([.ref h0, .int x0, .int x1, .ref h1]) ++ List.replicate (5 - (lg_sl ([.ref h0, .int x0, .int x1, .ref h1])).length) Slot.unset).toArray = ls at hl ⊢
  have hl : lv_has ls 5 [(0, .ref h0), (1, .int x0), (2, .int x1), (3, .ref h1)] := hl
  generalize ([.ref h0, .int x0, .int x1, .ref h1] : List Value).toArray = ar at hG ⊢
  refine wq (fun Q hQ => ?_)
  refine lv_aload_n hx hb dL_poke_0 rfl (lv_at hl 3 rfl) ?_
  refine lv_iconst (v := 0) hx hb dL_poke_1 (by decide) ?_
  refine lv_aload_n hx hb dL_poke_2 rfl (lv_at hl 0 rfl) ?_
  refine lv_iload_n hx hb dL_poke_3 rfl (lv_at hl 1 rfl) ?_
  refine lv_iload_n hx hb dL_poke_4 rfl (lv_at hl 2 rfl) ?_
  obtain ⟨hPc, hDc, hFc⟩ := nv_sub3 (wc := [(h0, .inr (11, [.ref h2, .ref h3, .ref h4, .ref h5, .ref h6, .int x2, .int x3]))]) hP hD hS hA [0] (by decide) rfl
  have hKc := hK.sub (tys' := []) [] rfl
  refine vx_calli (vx_runV (As := [.int x0, .int x1]) (rest := [.int 0, .ref h1]) ⟨hx, hb, hml, hown, hG⟩ (cX11_poke_2 l hst dC dI adK adV h0 h2 h3 h4 h5 h6 s.heap.size x0 x1 x2 x3 ix0 ix2) (cwV 2 hG (gV wd_1166 wd_1167 wd_1168 wd_1 wd_1169) rfl rfl rfl (by decide +kernel) ⟨Nat.le_of_ble_eq_true rfl, Nat.le_of_ble_eq_true rfl⟩) ⟨fun a U g mk q => by obtain ⟨q0, q1, qP, qK, qD, qE⟩ := q; exact ⟨q0, q1, qP, va_K.moved (u := U) (U := U.calling g mk a) (Vm.Alike.refl U.vm) qK, qD, qE.same rfl⟩, va_recv hKc hPc (ci := 11) (q0 := 0) rfl rfl, fun U hU hW => ⟨rfl, by rw [hU], by rw [hU]; exact hPc, va_K.moved hW.alike hKc, hDc.weaken (fun _ _ _ _ => trivial), by rw [hU]; exact ((hE.kept hS.2.1).narrow hFc).warm hW⟩⟩ rfl rfl hl.1 rfl (lv_room (Nat.le_of_ble_eq_true rfl)) dL_poke_5 ⟨by decide, by decide⟩) hS (fun q _ h => hFc q h) hFc (fun q _ h => hFc q h) (fun E9 ce q1 u9 t H1 locs ht hvm hpx hB hz1 hk1 hS hce hcv hcl => ?_) (fun r u t H1 locs ht hvm hw hB hz1 hk1 hS => hw.elim)
  obtain ⟨rfl, hP1, hK1, hD1⟩ := hB
  rw [ht] at hP1
  have hK1 := va_K.moved hvm.symm hK1
  obtain ⟨hP, hD⟩ := nv_join (wf := [(h0, .inr (11, [.ref h2, .ref h3, .ref h4, .ref h5, .ref h6, .int x2, .int x3]))]) hP hD [0] [] rfl rfl (by decide) (by decide) hk1 hFc hP1 hD1 rfl
  have hK := (hK.sub (tys' := []) [] rfl).app hK1
  generalize H1 = H at hP hS hce ⊢
  have hK : va_K (dC, dI) vwCl [] s := hK
  refine vx_widen (k := 1) (n := 6) (by decide) (by decide) ?_
  refine vx_catch (name := "java/lang/IndexOutOfBoundsException") hown [] { startPc := 0, endPc := 17, handlerPc := 20, catchType := 19 } [] (by rw [htab]; rfl) (fun z hz => nomatch hz) (by decide) (by decide) (hG _ wd_1121) (evC1 hE) hce hcv hcl ?_
  refine lv_astore (lv' := [(4, .ref q1), (0, .ref h0), (1, .int x0), (2, .int x1), (3, .ref h1)]) hx hb dL_poke_20 hl (by decide) rfl (fun ls hl => ?_)
  refine lv_iconst (v := 1) hx hb dL_poke_22 (by decide) ?_
  rw [hQ]
  obtain ⟨hP9, hD9⟩ := nv_sub2 (wc := [(h0, .inr (11, [.ref h2, .ref h3, .ref h4, .ref h5, .ref h6, .int x2, .int x3]))]) hP hD [0] (by decide) rfl
  have hK9 := hK.sub (tys' := []) [] rfl
  refine W.widen (k := 1) (n := 6) (by decide) (by decide) ?_
  exact W.iret (v := 1) hx hb hr (fun t ht hW => ⟨⟨1, (), rfl, ⟨rfl, trivial⟩, by rw [ht]; exact hP9, va_K.moved hW.alike hK9, hD9⟩, hS.F ht⟩) hS.2.2 dL_poke_23
set_option maxHeartbeats 100000000 in
set_option maxRecDepth 100000 in
theorem cX11_poke_3 (l : Launch) (dC : Nat → ClassId) (dI : Nat → Nat → Nat) (h0 h1 h2 h3 h4 h5 h6 h7 h8 h9 h10 h11 : Nat) (y0 y1 y2 : ClassId) (sz : Nat) (x0 x1 x2 x3 x4 x5 x6 x7 x8 x9 x10 x11 x12 x13 x14 x15 x16 x17 x18 : Int32) (f0 f1 f2 : Nat → Int32) (ix0 : iv x0 0 65535) (ix2 : iv x2 0 2600) (ix7 : iv x7 0 1) : Met l yX11_poke (Cond.code yX11_poke cX11_poke 3 (some .boolean) :: lw_G) ({ frames := 4, cells := 0, slots := 0, locals := 92 }) (va_Pc [.ref h0, .int x0, .int x1] (fun U => U.heap.size = sz ∧ va_P (dC, dI) vwCl [(h0, .inr (11, [.ref h1, .ref h2, .ref h3, .ref h4, .ref h5, .int x2, .int x3])), (h2, .inr (1, [.ref h6, .ref h7, .ref h8, .ref h9])), (h6, .inl (y0, 32768, .inl f0)), (h9, .inr (9, [.ref h10, .ref h11, .int x4, .int x5, .int x6, .int x7])), (h11, .inl (y1, 3, .inl f1)), (h10, .inl (y2, 3, .inl f2)), (h8, .inr (5, [.int x8, .int x9, .int x10, .int x11, .int x12, .int x13])), (h7, .inr (7, [.int x14, .int x15, .int x16, .int x17, .int x18]))] U.heap ∧ va_K (dC, dI) vwCl [(y0, .int), (y1, .int), (y2, .int)] U ∧ va_D (fun _ => True) [(h0, .inr (11, [.ref h1, .ref h2, .ref h3, .ref h4, .ref h5, .int x2, .int x3])), (h2, .inr (1, [.ref h6, .ref h7, .ref h8, .ref h9])), (h6, .inl (y0, 32768, .inl f0)), (h9, .inr (9, [.ref h10, .ref h11, .int x4, .int x5, .int x6, .int x7])), (h11, .inl (y1, 3, .inl f1)), (h10, .inl (y2, 3, .inl f2)), (h8, .inr (5, [.int x8, .int x9, .int x10, .int x11, .int x12, .int x13])), (h7, .inr (7, [.int x14, .int x15, .int x16, .int x17, .int x18]))])) (va_Qi (fun (r : Int32) (u : (Nat → Int32) × Int32 × Int32 × Int32 × Int32 × (Nat → Int32) × (Nat → Int32) × Int32 × Int32 × Int32 × Int32 × Int32 × Int32 × Int32 × Int32 × Int32 × Int32) => iv r 0 1 ∧ iv u.2.2.2.2.1 0 1 ∧ True) (fun (u : (Nat → Int32) × Int32 × Int32 × Int32 × Int32 × (Nat → Int32) × (Nat → Int32) × Int32 × Int32 × Int32 × Int32 × Int32 × Int32 × Int32 × Int32 × Int32 × Int32) (t : State) => va_P (dC, dI) vwCl [(h0, .inr (11, [.ref h1, .ref h2, .ref h3, .ref h4, .ref h5, .int x2, .int x3])), (h2, .inr (1, [.ref h6, .ref h7, .ref h8, .ref h9])), (h6, .inl (y0, 32768, .inl u.1)), (h9, .inr (9, [.ref h10, .ref h11, .int u.2.1, .int u.2.2.1, .int u.2.2.2.1, .int u.2.2.2.2.1])), (h11, .inl (y1, 3, .inl u.2.2.2.2.2.1)), (h10, .inl (y2, 3, .inl u.2.2.2.2.2.2.1)), (h8, .inr (5, [.int u.2.2.2.2.2.2.2.1, .int u.2.2.2.2.2.2.2.2.1, .int u.2.2.2.2.2.2.2.2.2.1, .int u.2.2.2.2.2.2.2.2.2.2.1, .int u.2.2.2.2.2.2.2.2.2.2.2.1, .int u.2.2.2.2.2.2.2.2.2.2.2.2.1])), (h7, .inr (7, [.int x14, .int u.2.2.2.2.2.2.2.2.2.2.2.2.2.1, .int u.2.2.2.2.2.2.2.2.2.2.2.2.2.2.1, .int u.2.2.2.2.2.2.2.2.2.2.2.2.2.2.2.1, .int u.2.2.2.2.2.2.2.2.2.2.2.2.2.2.2.2]))] t.heap ∧ va_K (dC, dI) vwCl [(y0, .int), (y1, .int), (y2, .int)] t ∧ va_D (va_A [(h0, .inr (11, [.ref h1, .ref h2, .ref h3, .ref h4, .ref h5, .int x2, .int x3])), (h2, .inr (1, [.ref h6, .ref h7, .ref h8, .ref h9])), (h6, .inl (y0, 32768, .inl f0)), (h9, .inr (9, [.ref h10, .ref h11, .int x4, .int x5, .int x6, .int x7])), (h11, .inl (y1, 3, .inl f1)), (h10, .inl (y2, 3, .inl f2)), (h8, .inr (5, [.int x8, .int x9, .int x10, .int x11, .int x12, .int x13])), (h7, .inr (7, [.int x14, .int x15, .int x16, .int x17, .int x18]))] sz) [(h0, .inr (11, [.ref h1, .ref h2, .ref h3, .ref h4, .ref h5, .int x2, .int x3])), (h2, .inr (1, [.ref h6, .ref h7, .ref h8, .ref h9])), (h6, .inl (y0, 32768, .inl u.1)), (h9, .inr (9, [.ref h10, .ref h11, .int u.2.1, .int u.2.2.1, .int u.2.2.2.1, .int u.2.2.2.2.1])), (h11, .inl (y1, 3, .inl u.2.2.2.2.2.1)), (h10, .inl (y2, 3, .inl u.2.2.2.2.2.2.1)), (h8, .inr (5, [.int u.2.2.2.2.2.2.2.1, .int u.2.2.2.2.2.2.2.2.1, .int u.2.2.2.2.2.2.2.2.2.1, .int u.2.2.2.2.2.2.2.2.2.2.1, .int u.2.2.2.2.2.2.2.2.2.2.2.1, .int u.2.2.2.2.2.2.2.2.2.2.2.2.1])), (h7, .inr (7, [.int x14, .int u.2.2.2.2.2.2.2.2.2.2.2.2.2.1, .int u.2.2.2.2.2.2.2.2.2.2.2.2.2.2.1, .int u.2.2.2.2.2.2.2.2.2.2.2.2.2.2.2.1, .int u.2.2.2.2.2.2.2.2.2.2.2.2.2.2.2.2]))]) (va_A [(h0, .inr (11, [.ref h1, .ref h2, .ref h3, .ref h4, .ref h5, .int x2, .int x3])), (h2, .inr (1, [.ref h6, .ref h7, .ref h8, .ref h9])), (h6, .inl (y0, 32768, .inl f0)), (h9, .inr (9, [.ref h10, .ref h11, .int x4, .int x5, .int x6, .int x7])), (h11, .inl (y1, 3, .inl f1)), (h10, .inl (y2, 3, .inl f2)), (h8, .inr (5, [.int x8, .int x9, .int x10, .int x11, .int x12, .int x13])), (h7, .inr (7, [.int x14, .int x15, .int x16, .int x17, .int x18]))] sz)) 0 0 (va_A [(h0, .inr (11, [.ref h1, .ref h2, .ref h3, .ref h4, .ref h5, .int x2, .int x3])), (h2, .inr (1, [.ref h6, .ref h7, .ref h8, .ref h9])), (h6, .inl (y0, 32768, .inl f0)), (h9, .inr (9, [.ref h10, .ref h11, .int x4, .int x5, .int x6, .int x7])), (h11, .inl (y1, 3, .inl f1)), (h10, .inl (y2, 3, .inl f2)), (h8, .inr (5, [.int x8, .int x9, .int x10, .int x11, .int x12, .int x13])), (h7, .inr (7, [.int x14, .int x15, .int x16, .int x17, .int x18]))] sz) := by
  refine Met.ofW (cc := cX11_poke) (maxL := 3) (ret := (some .boolean)) (by decide) rfl ?_
  intro p e s m args below meth c s₁ B hml hv
  obtain ⟨rfl, hsz, hP, hK, hD0⟩ := hv
  have hx := B.exec
  have hb := B.bytes
  have hr := B.returns
  have hts0 := atoms_spec (ws := Cond.code yX11_poke cX11_poke 3 (some .boolean) :: lw_G) B.pre
  have hG : ∀ w ∈ lw_G, w.before _ s = true := fun w h => hts0 w (List.mem_cons_of_mem _ h)
  have hown : s.vm.findClass RX11 = some m.cls := findClass_of_methodNamed B.named
  have hlocks := B.notSynchronized
  subst hsz
  have hD := hD0.self (sz := s.heap.size)
  generalize hAe : va_A [(h0, .inr (11, [.ref h1, .ref h2, .ref h3, .ref h4, .ref h5, .int x2, .int x3])), (h2, .inr (1, [.ref h6, .ref h7, .ref h8, .ref h9])), (h6, .inl (y0, 32768, .inl f0)), (h9, .inr (9, [.ref h10, .ref h11, .int x4, .int x5, .int x6, .int x7])), (h11, .inl (y1, 3, .inl f1)), (h10, .inl (y2, 3, .inl f2)), (h8, .inr (5, [.int x8, .int x9, .int x10, .int x11, .int x12, .int x13])), (h7, .inr (7, [.int x14, .int x15, .int x16, .int x17, .int x18]))] s.heap.size = A at hD ⊢
  have hA : ∀ q : Nat, s.heap.size ≤ q → A q := fun q h => by rw [← hAe]; exact Or.inr h
  have hS : va_S A s.heap s.heap [] := va_S.rf
  have hP : va_P (dC, dI) vwCl [(h0, .inr (11, [.ref h1, .ref h2, .ref h3, .ref h4, .ref h5, .int x2, .int x3])), (h2, .inr (1, [.ref h6, .ref h7, .ref h8, .ref h9])), (h6, .inl (y0, 32768, .inl f0)), (h9, .inr (9, [.ref h10, .ref h11, .int x4, .int x5, .int x6, .int x7])), (h11, .inl (y1, 3, .inl f1)), (h10, .inl (y2, 3, .inl f2)), (h8, .inr (5, [.int x8, .int x9, .int x10, .int x11, .int x12, .int x13])), (h7, .inr (7, [.int x14, .int x15, .int x16, .int x17, .int x18]))] s.heap := hP
  have hl := lv_entry ([.ref h0, .int x0, .int x1]) (n := 3) (Nat.le_of_ble_eq_true rfl)
  rw [lg_entry_eq]
  generalize (lg_sl ([.ref h0, .int x0, .int x1]) ++ List.replicate (3 - (lg_sl ([.ref h0, .int x0, .int x1])).length) Slot.unset).toArray = ls at hl ⊢
  have hl : lv_has ls 3 [(0, .ref h0), (1, .int x0), (2, .int x1)] := hl
  generalize ([.ref h0, .int x0, .int x1] : List Value).toArray = ar at hG ⊢
  refine wq (fun Q hQ => ?_)
  refine lv_iload_n hx hb dX11_poke_0 rfl (lv_at hl 1 rfl) ?_
  refine lv_if_lt (tgt := 10) hx hb dX11_poke_1 (by decide) (fun c => absurd c (iv_nlt ix0 (by decide : iv 0 0 0) (by decide))) (fun _ => ?_)
  refine lv_iload_n hx hb dX11_poke_4 rfl (lv_at hl 1 rfl) ?_
  refine lv_ldc hx hb hown (hG _ wd_1157) dX11_poke_5 ?_
  refine lv_icmp_lt (tgt := 20) hx hb dX11_poke_7 (by decide) (fun _ => ?_) (fun c => absurd (iv_lt ix0 (by decide : iv 65536 65536 65536) (by decide)) c)
  refine lv_iload_n hx hb dX11_poke_20 rfl (lv_at hl 2 rfl) ?_
  refine lv_if_lt (tgt := 31) hx hb dX11_poke_21 (by decide) (fun c1 => ?_) (fun c1 => ?_)
  · skip
    have j2 : iv x1 (-2147483648) (-1) := iv_ltL (iv_any x1) (by decide : iv 0 0 0) c1 (by decide)
    refine lv_iconst (v := 0) hx hb dX11_poke_31 (by decide) ?_
    rw [hQ]
    obtain ⟨hP9, hD9⟩ := nv_sub2 (wc := [(h0, .inr (11, [.ref h1, .ref h2, .ref h3, .ref h4, .ref h5, .int x2, .int x3])), (h2, .inr (1, [.ref h6, .ref h7, .ref h8, .ref h9])), (h6, .inl (y0, 32768, .inl f0)), (h9, .inr (9, [.ref h10, .ref h11, .int x4, .int x5, .int x6, .int x7])), (h11, .inl (y1, 3, .inl f1)), (h10, .inl (y2, 3, .inl f2)), (h8, .inr (5, [.int x8, .int x9, .int x10, .int x11, .int x12, .int x13])), (h7, .inr (7, [.int x14, .int x15, .int x16, .int x17, .int x18]))]) hP hD [0, 1, 2, 3, 4, 5, 6, 7] (by decide) rfl
    have hK9 := hK.sub (tys' := [(y0, .int), (y1, .int), (y2, .int)]) [0, 1, 2] rfl
    exact W.zret (v := 0) hx hb hr rfl (fun t ht hW => ⟨⟨0, (f0, x4, x5, x6, x7, f1, f2, x8, x9, x10, x11, x12, x13, x15, x16, x17, x18), rfl, ⟨iv_w (by decide : iv 0 0 0) (by decide) (by decide), iv_w ix7 (by decide) (by decide), trivial⟩, by rw [ht]; exact hP9, va_K.moved hW.alike hK9, hD9⟩, hS.F ht⟩) hS.2.2 dX11_poke_32
  · skip
    have j3 : iv x1 0 2147483647 := iv_nltL (iv_any x1) (by decide : iv 0 0 0) c1 (by decide)
    refine lv_iload_n hx hb dX11_poke_24 rfl (lv_at hl 2 rfl) ?_
    refine lv_sipush (v := 255) hx hb dX11_poke_25 (by decide) ?_
    refine lv_icmp_le (tgt := 33) hx hb dX11_poke_28 (by decide) (fun c4 => ?_) (fun c4 => ?_)
    · skip
      have j5 : iv x1 0 255 := iv_leL j3 (by decide : iv 255 255 255) c4 (by decide)
      refine lv_aload_n hx hb dX11_poke_33 rfl (lv_at hl 0 rfl) ?_
      refine va_get (D := (dC, dI)) (ci := 11) (v := .ref h2) (C := RX11) (T := TX11) (N := 7) hx hb hG inGX11 hown hK hP 0 rfl rfl 1 (by decide) (hG _ wd_396) (fun _ h9 => h9) rfl dX11_poke_34 ?_
      refine lv_iload_n hx hb dX11_poke_37 rfl (lv_at hl 1 rfl) ?_
      refine lv_iload_n hx hb dX11_poke_38 rfl (lv_at hl 2 rfl) ?_
      obtain ⟨hPc, hDc, hFc⟩ := nv_sub3 (wc := [(h2, .inr (1, [.ref h6, .ref h7, .ref h8, .ref h9])), (h6, .inl (y0, 32768, .inl f0)), (h9, .inr (9, [.ref h10, .ref h11, .int x4, .int x5, .int x6, .int x7])), (h11, .inl (y1, 3, .inl f1)), (h10, .inl (y2, 3, .inl f2)), (h8, .inr (5, [.int x8, .int x9, .int x10, .int x11, .int x12, .int x13])), (h7, .inr (7, [.int x14, .int x15, .int x16, .int x17, .int x18]))]) hP hD hS hA [1, 2, 3, 4, 5, 6, 7] (by decide) rfl
      have hKc := hK.sub (tys' := [(y0, .int), (y1, .int), (y2, .int)]) [0, 1, 2] rfl
      refine va_callv (va_runV (As := [.int x0, .int x1]) (rest := []) ⟨hx, hb, hml, hown, hG⟩ (cX1_writeByte_1 l dC dI h2 h6 h7 h8 h9 h10 h11 y0 y1 y2 s.heap.size x0 x1 x4 x5 x6 x7 x8 x9 x10 x11 x12 x13 x14 x15 x16 x17 x18 f0 f1 f2 ix7) (cwV 2 hG (gV wd_1170 wd_711 wd_712 wd_2 wd_713) rfl rfl rfl (by decide +kernel) ⟨Nat.le_of_ble_eq_true rfl, Nat.le_of_ble_eq_true rfl⟩) ⟨fun a U g mk q => by obtain ⟨q0, q1, qP, qK, qD⟩ := q; exact ⟨q0, q1, qP, va_K.moved (u := U) (U := U.calling g mk a) (Vm.Alike.refl U.vm) qK, qD⟩, va_recv hKc hPc (ci := 1) (q0 := 0) rfl rfl, fun U hU hW => ⟨rfl, by rw [hU], by rw [hU]; exact hPc, va_K.moved hW.alike hKc, hDc.weaken (fun _ _ _ _ => trivial)⟩⟩ rfl rfl hl.1 rfl (lv_room (Nat.le_of_ble_eq_true rfl)) dX11_poke_39 ⟨by decide, by decide⟩) hS (fun q _ h => hFc q h) hFc (fun u7 t H1 locs ht hvm hw hB hz1 hk1 hS => ?_)
      obtain ⟨u7_0, u7_1, u7_2, u7_3, u7_4, u7_5, u7_6, u7_7, u7_8, u7_9, u7_10, u7_11, u7_12, u7_13, u7_14, u7_15, u7_16⟩ := u7
      have hw : iv u7_4 0 1 ∧ True := hw
      obtain ⟨iu7_4, -⟩ := hw
      obtain ⟨hP1, hK1, hD1⟩ := hB
      rw [ht] at hP1
      have hK1 := va_K.moved hvm.symm hK1
      obtain ⟨hP, hD⟩ := nv_join (wf := [(h0, .inr (11, [.ref h1, .ref h2, .ref h3, .ref h4, .ref h5, .int x2, .int x3])), (h2, .inr (1, [.ref h6, .ref h7, .ref h8, .ref h9])), (h6, .inl (y0, 32768, .inl u7_0)), (h9, .inr (9, [.ref h10, .ref h11, .int u7_1, .int u7_2, .int u7_3, .int u7_4])), (h11, .inl (y1, 3, .inl u7_5)), (h10, .inl (y2, 3, .inl u7_6)), (h8, .inr (5, [.int u7_7, .int u7_8, .int u7_9, .int u7_10, .int u7_11, .int u7_12])), (h7, .inr (7, [.int x14, .int u7_13, .int u7_14, .int u7_15, .int u7_16]))]) hP hD [1, 2, 3, 4, 5, 6, 7] [0] rfl rfl (by decide) (by decide) hk1 hFc hP1 hD1 rfl
      have hK := (hK.sub (tys' := []) [] rfl).app hK1
      generalize H1 = H at hP hS ⊢
      have hK : va_K (dC, dI) vwCl [(y0, .int), (y1, .int), (y2, .int)] s := hK
      refine lv_iconst (v := 1) hx hb dX11_poke_42 (by decide) ?_
      rw [hQ]
      obtain ⟨hP9, hD9⟩ := nv_sub2 (wc := [(h0, .inr (11, [.ref h1, .ref h2, .ref h3, .ref h4, .ref h5, .int x2, .int x3])), (h2, .inr (1, [.ref h6, .ref h7, .ref h8, .ref h9])), (h6, .inl (y0, 32768, .inl u7_0)), (h9, .inr (9, [.ref h10, .ref h11, .int u7_1, .int u7_2, .int u7_3, .int u7_4])), (h11, .inl (y1, 3, .inl u7_5)), (h10, .inl (y2, 3, .inl u7_6)), (h8, .inr (5, [.int u7_7, .int u7_8, .int u7_9, .int u7_10, .int u7_11, .int u7_12])), (h7, .inr (7, [.int x14, .int u7_13, .int u7_14, .int u7_15, .int u7_16]))]) hP hD [0, 1, 2, 3, 4, 5, 6, 7] (by decide) rfl
      have hK9 := hK.sub (tys' := [(y0, .int), (y1, .int), (y2, .int)]) [0, 1, 2] rfl
      exact W.zret (v := 1) hx hb hr rfl (fun t ht hW => ⟨⟨1, (u7_0, u7_1, u7_2, u7_3, u7_4, u7_5, u7_6, u7_7, u7_8, u7_9, u7_10, u7_11, u7_12, u7_13, u7_14, u7_15, u7_16), rfl, ⟨iv_w (by decide : iv 1 1 1) (by decide) (by decide), iv_w iu7_4 (by decide) (by decide), trivial⟩, by rw [ht]; exact hP9, va_K.moved hW.alike hK9, hD9⟩, hS.F ht⟩) hS.2.2 dX11_poke_43
    · skip
      have j8 : iv x1 256 2147483647 := iv_nleL j3 (by decide : iv 255 255 255) c4 (by decide)
      refine lv_iconst (v := 0) hx hb dX11_poke_31 (by decide) ?_
      rw [hQ]
      obtain ⟨hP9, hD9⟩ := nv_sub2 (wc := [(h0, .inr (11, [.ref h1, .ref h2, .ref h3, .ref h4, .ref h5, .int x2, .int x3])), (h2, .inr (1, [.ref h6, .ref h7, .ref h8, .ref h9])), (h6, .inl (y0, 32768, .inl f0)), (h9, .inr (9, [.ref h10, .ref h11, .int x4, .int x5, .int x6, .int x7])), (h11, .inl (y1, 3, .inl f1)), (h10, .inl (y2, 3, .inl f2)), (h8, .inr (5, [.int x8, .int x9, .int x10, .int x11, .int x12, .int x13])), (h7, .inr (7, [.int x14, .int x15, .int x16, .int x17, .int x18]))]) hP hD [0, 1, 2, 3, 4, 5, 6, 7] (by decide) rfl
      have hK9 := hK.sub (tys' := [(y0, .int), (y1, .int), (y2, .int)]) [0, 1, 2] rfl
      exact W.zret (v := 0) hx hb hr rfl (fun t ht hW => ⟨⟨0, (f0, x4, x5, x6, x7, f1, f2, x8, x9, x10, x11, x12, x13, x15, x16, x17, x18), rfl, ⟨iv_w (by decide : iv 0 0 0) (by decide) (by decide), iv_w ix7 (by decide) (by decide), trivial⟩, by rw [ht]; exact hP9, va_K.moved hW.alike hK9, hD9⟩, hS.F ht⟩) hS.2.2 dX11_poke_32
set_option maxHeartbeats 100000000 in
set_option maxRecDepth 100000 in
theorem cL_poke_3 (l : Launch) (dC : Nat → ClassId) (dI : Nat → Nat → Nat) (h0 h1 h2 h3 h4 h5 h6 h7 h8 h9 h10 h11 h12 : Nat) (y0 y1 y2 y3 : ClassId) (sz : Nat) (x0 x1 x2 x3 x4 x5 x6 x7 x8 x9 x10 x11 x12 x13 x14 x15 x16 x17 x18 : Int32) (f0 f1 f2 : Nat → Int32) (g0 : Nat → Int64) (ix0 : iv x0 0 65535) (ix2 : iv x2 0 2600) (ix7 : iv x7 0 1) : Met l yL_poke (Cond.codeWith yL_poke cL_poke 5 (some .int) [(0, 17, 20, 19)] :: lw_G) ({ frames := 5, cells := 0, slots := 0, locals := 114 }) (va_Pc [.ref h0, .int x0, .int x1, .ref h1] (fun U => U.heap.size = sz ∧ va_P (dC, dI) vwCl [(h0, .inr (11, [.ref h2, .ref h3, .ref h4, .ref h5, .ref h6, .int x2, .int x3])), (h3, .inr (1, [.ref h7, .ref h8, .ref h9, .ref h10])), (h7, .inl (y0, 32768, .inl f0)), (h10, .inr (9, [.ref h11, .ref h12, .int x4, .int x5, .int x6, .int x7])), (h12, .inl (y1, 3, .inl f1)), (h11, .inl (y2, 3, .inl f2)), (h9, .inr (5, [.int x8, .int x9, .int x10, .int x11, .int x12, .int x13])), (h8, .inr (7, [.int x14, .int x15, .int x16, .int x17, .int x18])), (h1, .inl (y3, 1, .inr (.inl g0)))] U.heap ∧ va_K (dC, dI) vwCl [(y0, .int), (y1, .int), (y2, .int), (y3, .long)] U ∧ va_D (fun _ => True) [(h0, .inr (11, [.ref h2, .ref h3, .ref h4, .ref h5, .ref h6, .int x2, .int x3])), (h3, .inr (1, [.ref h7, .ref h8, .ref h9, .ref h10])), (h7, .inl (y0, 32768, .inl f0)), (h10, .inr (9, [.ref h11, .ref h12, .int x4, .int x5, .int x6, .int x7])), (h12, .inl (y1, 3, .inl f1)), (h11, .inl (y2, 3, .inl f2)), (h9, .inr (5, [.int x8, .int x9, .int x10, .int x11, .int x12, .int x13])), (h8, .inr (7, [.int x14, .int x15, .int x16, .int x17, .int x18])), (h1, .inl (y3, 1, .inr (.inl g0)))])) (va_Qi (fun (r : Int32) (u : (Nat → Int32) × Int32 × Int32 × Int32 × Int32 × (Nat → Int32) × (Nat → Int32) × Int32 × Int32 × Int32 × Int32 × Int32 × Int32 × Int32 × Int32 × Int32 × Int32 × (Nat → Int64)) => r = 0 ∧ iv u.2.2.2.2.1 0 1 ∧ True) (fun (u : (Nat → Int32) × Int32 × Int32 × Int32 × Int32 × (Nat → Int32) × (Nat → Int32) × Int32 × Int32 × Int32 × Int32 × Int32 × Int32 × Int32 × Int32 × Int32 × Int32 × (Nat → Int64)) (t : State) => va_P (dC, dI) vwCl [(h0, .inr (11, [.ref h2, .ref h3, .ref h4, .ref h5, .ref h6, .int x2, .int x3])), (h3, .inr (1, [.ref h7, .ref h8, .ref h9, .ref h10])), (h7, .inl (y0, 32768, .inl u.1)), (h10, .inr (9, [.ref h11, .ref h12, .int u.2.1, .int u.2.2.1, .int u.2.2.2.1, .int u.2.2.2.2.1])), (h12, .inl (y1, 3, .inl u.2.2.2.2.2.1)), (h11, .inl (y2, 3, .inl u.2.2.2.2.2.2.1)), (h9, .inr (5, [.int u.2.2.2.2.2.2.2.1, .int u.2.2.2.2.2.2.2.2.1, .int u.2.2.2.2.2.2.2.2.2.1, .int u.2.2.2.2.2.2.2.2.2.2.1, .int u.2.2.2.2.2.2.2.2.2.2.2.1, .int u.2.2.2.2.2.2.2.2.2.2.2.2.1])), (h8, .inr (7, [.int x14, .int u.2.2.2.2.2.2.2.2.2.2.2.2.2.1, .int u.2.2.2.2.2.2.2.2.2.2.2.2.2.2.1, .int u.2.2.2.2.2.2.2.2.2.2.2.2.2.2.2.1, .int u.2.2.2.2.2.2.2.2.2.2.2.2.2.2.2.2.1])), (h1, .inl (y3, 1, .inr (.inl u.2.2.2.2.2.2.2.2.2.2.2.2.2.2.2.2.2)))] t.heap ∧ va_K (dC, dI) vwCl [(y0, .int), (y1, .int), (y2, .int), (y3, .long)] t ∧ va_D (va_A [(h0, .inr (11, [.ref h2, .ref h3, .ref h4, .ref h5, .ref h6, .int x2, .int x3])), (h3, .inr (1, [.ref h7, .ref h8, .ref h9, .ref h10])), (h7, .inl (y0, 32768, .inl f0)), (h10, .inr (9, [.ref h11, .ref h12, .int x4, .int x5, .int x6, .int x7])), (h12, .inl (y1, 3, .inl f1)), (h11, .inl (y2, 3, .inl f2)), (h9, .inr (5, [.int x8, .int x9, .int x10, .int x11, .int x12, .int x13])), (h8, .inr (7, [.int x14, .int x15, .int x16, .int x17, .int x18])), (h1, .inl (y3, 1, .inr (.inl g0)))] sz) [(h0, .inr (11, [.ref h2, .ref h3, .ref h4, .ref h5, .ref h6, .int x2, .int x3])), (h3, .inr (1, [.ref h7, .ref h8, .ref h9, .ref h10])), (h7, .inl (y0, 32768, .inl u.1)), (h10, .inr (9, [.ref h11, .ref h12, .int u.2.1, .int u.2.2.1, .int u.2.2.2.1, .int u.2.2.2.2.1])), (h12, .inl (y1, 3, .inl u.2.2.2.2.2.1)), (h11, .inl (y2, 3, .inl u.2.2.2.2.2.2.1)), (h9, .inr (5, [.int u.2.2.2.2.2.2.2.1, .int u.2.2.2.2.2.2.2.2.1, .int u.2.2.2.2.2.2.2.2.2.1, .int u.2.2.2.2.2.2.2.2.2.2.1, .int u.2.2.2.2.2.2.2.2.2.2.2.1, .int u.2.2.2.2.2.2.2.2.2.2.2.2.1])), (h8, .inr (7, [.int x14, .int u.2.2.2.2.2.2.2.2.2.2.2.2.2.1, .int u.2.2.2.2.2.2.2.2.2.2.2.2.2.2.1, .int u.2.2.2.2.2.2.2.2.2.2.2.2.2.2.2.1, .int u.2.2.2.2.2.2.2.2.2.2.2.2.2.2.2.2.1])), (h1, .inl (y3, 1, .inr (.inl u.2.2.2.2.2.2.2.2.2.2.2.2.2.2.2.2.2)))]) (va_A [(h0, .inr (11, [.ref h2, .ref h3, .ref h4, .ref h5, .ref h6, .int x2, .int x3])), (h3, .inr (1, [.ref h7, .ref h8, .ref h9, .ref h10])), (h7, .inl (y0, 32768, .inl f0)), (h10, .inr (9, [.ref h11, .ref h12, .int x4, .int x5, .int x6, .int x7])), (h12, .inl (y1, 3, .inl f1)), (h11, .inl (y2, 3, .inl f2)), (h9, .inr (5, [.int x8, .int x9, .int x10, .int x11, .int x12, .int x13])), (h8, .inr (7, [.int x14, .int x15, .int x16, .int x17, .int x18])), (h1, .inl (y3, 1, .inr (.inl g0)))] sz)) 0 0 (va_A [(h0, .inr (11, [.ref h2, .ref h3, .ref h4, .ref h5, .ref h6, .int x2, .int x3])), (h3, .inr (1, [.ref h7, .ref h8, .ref h9, .ref h10])), (h7, .inl (y0, 32768, .inl f0)), (h10, .inr (9, [.ref h11, .ref h12, .int x4, .int x5, .int x6, .int x7])), (h12, .inl (y1, 3, .inl f1)), (h11, .inl (y2, 3, .inl f2)), (h9, .inr (5, [.int x8, .int x9, .int x10, .int x11, .int x12, .int x13])), (h8, .inr (7, [.int x14, .int x15, .int x16, .int x17, .int x18])), (h1, .inl (y3, 1, .inr (.inl g0)))] sz) := by
  refine va_MetW (cc := cL_poke) (maxL := 5) (ret := (some .int)) (by decide) rfl ?_
  intro p e s m args below meth c s₁ B hml hv
  obtain ⟨rfl, hsz, hP, hK, hD0⟩ := hv
  have hx := B.exec
  have hb := B.bytes
  have hr := B.returns
  have hts0 := atoms_spec (ws := Cond.codeWith yL_poke cL_poke 5 (some .int) [(0, 17, 20, 19)] :: lw_G) B.pre
  have htab := vx_table (x := x) B (hts0 _ List.mem_cons_self)
  have hG : ∀ w ∈ lw_G, w.before _ s = true := fun w h => hts0 w (List.mem_cons_of_mem _ h)
  have hown : s.vm.findClass RL = some m.cls := findClass_of_methodNamed B.named
  have hlocks := B.notSynchronized
  subst hsz
  have hD := hD0.self (sz := s.heap.size)
  generalize hAe : va_A [(h0, .inr (11, [.ref h2, .ref h3, .ref h4, .ref h5, .ref h6, .int x2, .int x3])), (h3, .inr (1, [.ref h7, .ref h8, .ref h9, .ref h10])), (h7, .inl (y0, 32768, .inl f0)), (h10, .inr (9, [.ref h11, .ref h12, .int x4, .int x5, .int x6, .int x7])), (h12, .inl (y1, 3, .inl f1)), (h11, .inl (y2, 3, .inl f2)), (h9, .inr (5, [.int x8, .int x9, .int x10, .int x11, .int x12, .int x13])), (h8, .inr (7, [.int x14, .int x15, .int x16, .int x17, .int x18])), (h1, .inl (y3, 1, .inr (.inl g0)))] s.heap.size = A at hD ⊢
  have hA : ∀ q : Nat, s.heap.size ≤ q → A q := fun q h => by rw [← hAe]; exact Or.inr h
  have hS : va_S A s.heap s.heap [] := va_S.rf
  have hP : va_P (dC, dI) vwCl [(h0, .inr (11, [.ref h2, .ref h3, .ref h4, .ref h5, .ref h6, .int x2, .int x3])), (h3, .inr (1, [.ref h7, .ref h8, .ref h9, .ref h10])), (h7, .inl (y0, 32768, .inl f0)), (h10, .inr (9, [.ref h11, .ref h12, .int x4, .int x5, .int x6, .int x7])), (h12, .inl (y1, 3, .inl f1)), (h11, .inl (y2, 3, .inl f2)), (h9, .inr (5, [.int x8, .int x9, .int x10, .int x11, .int x12, .int x13])), (h8, .inr (7, [.int x14, .int x15, .int x16, .int x17, .int x18])), (h1, .inl (y3, 1, .inr (.inl g0)))] s.heap := hP
  have hl := lv_entry ([.ref h0, .int x0, .int x1, .ref h1]) (n := 5) (Nat.le_of_ble_eq_true rfl)
  rw [lg_entry_eq]
  generalize (lg_sl ([.ref h0, .int x0, .int x1, .ref h1]) ++ List.replicate (5 - (lg_sl ([.ref h0, .int x0, .int x1, .ref h1])).length) Slot.unset).toArray = ls at hl ⊢
  have hl : lv_has ls 5 [(0, .ref h0), (1, .int x0), (2, .int x1), (3, .ref h1)] := hl
  generalize ([.ref h0, .int x0, .int x1, .ref h1] : List Value).toArray = ar at hG ⊢
  refine wq (fun Q hQ => ?_)
  refine lv_aload_n hx hb dL_poke_0 rfl (lv_at hl 3 rfl) ?_
  refine lv_iconst (v := 0) hx hb dL_poke_1 (by decide) ?_
  refine lv_aload_n hx hb dL_poke_2 rfl (lv_at hl 0 rfl) ?_
  refine lv_iload_n hx hb dL_poke_3 rfl (lv_at hl 1 rfl) ?_
  refine lv_iload_n hx hb dL_poke_4 rfl (lv_at hl 2 rfl) ?_
  obtain ⟨hPc, hDc, hFc⟩ := nv_sub3 (wc := [(h0, .inr (11, [.ref h2, .ref h3, .ref h4, .ref h5, .ref h6, .int x2, .int x3])), (h3, .inr (1, [.ref h7, .ref h8, .ref h9, .ref h10])), (h7, .inl (y0, 32768, .inl f0)), (h10, .inr (9, [.ref h11, .ref h12, .int x4, .int x5, .int x6, .int x7])), (h12, .inl (y1, 3, .inl f1)), (h11, .inl (y2, 3, .inl f2)), (h9, .inr (5, [.int x8, .int x9, .int x10, .int x11, .int x12, .int x13])), (h8, .inr (7, [.int x14, .int x15, .int x16, .int x17, .int x18]))]) hP hD hS hA [0, 1, 2, 3, 4, 5, 6, 7] (by decide) rfl
  have hKc := hK.sub (tys' := [(y0, .int), (y1, .int), (y2, .int)]) [0, 1, 2] rfl
  refine va_calli (va_runV (As := [.int x0, .int x1]) (rest := [.int 0, .ref h1]) ⟨hx, hb, hml, hown, hG⟩ (cX11_poke_3 l dC dI h0 h2 h3 h4 h5 h6 h7 h8 h9 h10 h11 h12 y0 y1 y2 s.heap.size x0 x1 x2 x3 x4 x5 x6 x7 x8 x9 x10 x11 x12 x13 x14 x15 x16 x17 x18 f0 f1 f2 ix0 ix2 ix7) (cwV 2 hG (gV wd_1166 wd_1167 wd_1168 wd_1 wd_1169) rfl rfl rfl (by decide +kernel) ⟨Nat.le_of_ble_eq_true rfl, Nat.le_of_ble_eq_true rfl⟩) ⟨fun a U g mk q => by obtain ⟨q0, q1, qP, qK, qD⟩ := q; exact ⟨q0, q1, qP, va_K.moved (u := U) (U := U.calling g mk a) (Vm.Alike.refl U.vm) qK, qD⟩, va_recv hKc hPc (ci := 11) (q0 := 0) rfl rfl, fun U hU hW => ⟨rfl, by rw [hU], by rw [hU]; exact hPc, va_K.moved hW.alike hKc, hDc.weaken (fun _ _ _ _ => trivial)⟩⟩ rfl rfl hl.1 rfl (lv_room (Nat.le_of_ble_eq_true rfl)) dL_poke_5 ⟨by decide, by decide⟩) hS (fun q _ h => hFc q h) hFc (fun r1 u2 t H1 locs ht hvm hw hB hz1 hk1 hS => ?_)
  obtain ⟨u2_0, u2_1, u2_2, u2_3, u2_4, u2_5, u2_6, u2_7, u2_8, u2_9, u2_10, u2_11, u2_12, u2_13, u2_14, u2_15, u2_16⟩ := u2
  have hw : iv r1 0 1 ∧ iv u2_4 0 1 ∧ True := hw
  obtain ⟨ir1, iu2_4, -⟩ := hw
  obtain ⟨hP1, hK1, hD1⟩ := hB
  rw [ht] at hP1
  have hK1 := va_K.moved hvm.symm hK1
  obtain ⟨hP, hD⟩ := nv_join (wf := [(h1, .inl (y3, 1, .inr (.inl g0))), (h0, .inr (11, [.ref h2, .ref h3, .ref h4, .ref h5, .ref h6, .int x2, .int x3])), (h3, .inr (1, [.ref h7, .ref h8, .ref h9, .ref h10])), (h7, .inl (y0, 32768, .inl u2_0)), (h10, .inr (9, [.ref h11, .ref h12, .int u2_1, .int u2_2, .int u2_3, .int u2_4])), (h12, .inl (y1, 3, .inl u2_5)), (h11, .inl (y2, 3, .inl u2_6)), (h9, .inr (5, [.int u2_7, .int u2_8, .int u2_9, .int u2_10, .int u2_11, .int u2_12])), (h8, .inr (7, [.int x14, .int u2_13, .int u2_14, .int u2_15, .int u2_16]))]) hP hD [0, 1, 2, 3, 4, 5, 6, 7] [8] rfl rfl (by decide) (by decide) hk1 hFc hP1 hD1 rfl
  have hK := (hK.sub (tys' := [(y3, .long)]) [3] rfl).app hK1
  generalize H1 = H at hP hS ⊢
  have hK : va_K (dC, dI) vwCl [(y3, .long), (y0, .int), (y1, .int), (y2, .int)] s := hK
  refine jcut (a := ∀ (b5 : Int64) (H : Heap) (locs : List Loc) (hK : va_K (dC, dI) vwCl [(y3, .long), (y0, .int), (y1, .int), (y2, .int)] s) (hP : va_P (dC, dI) vwCl [(h1, .inl (y3, 1, .inr (.inl g0))), (h0, .inr (11, [.ref h2, .ref h3, .ref h4, .ref h5, .ref h6, .int x2, .int x3])), (h3, .inr (1, [.ref h7, .ref h8, .ref h9, .ref h10])), (h7, .inl (y0, 32768, .inl u2_0)), (h10, .inr (9, [.ref h11, .ref h12, .int u2_1, .int u2_2, .int u2_3, .int u2_4])), (h12, .inl (y1, 3, .inl u2_5)), (h11, .inl (y2, 3, .inl u2_6)), (h9, .inr (5, [.int u2_7, .int u2_8, .int u2_9, .int u2_10, .int u2_11, .int u2_12])), (h8, .inr (7, [.int x14, .int u2_13, .int u2_14, .int u2_15, .int u2_16]))] H) (hD : va_D A [(h1, .inl (y3, 1, .inr (.inl g0))), (h0, .inr (11, [.ref h2, .ref h3, .ref h4, .ref h5, .ref h6, .int x2, .int x3])), (h3, .inr (1, [.ref h7, .ref h8, .ref h9, .ref h10])), (h7, .inl (y0, 32768, .inl u2_0)), (h10, .inr (9, [.ref h11, .ref h12, .int u2_1, .int u2_2, .int u2_3, .int u2_4])), (h12, .inl (y1, 3, .inl u2_5)), (h11, .inl (y2, 3, .inl u2_6)), (h9, .inr (5, [.int u2_7, .int u2_8, .int u2_9, .int u2_10, .int u2_11, .int u2_12])), (h8, .inr (7, [.int x14, .int u2_13, .int u2_14, .int u2_15, .int u2_16]))]) (hS : va_S A s.heap H locs) (ls : Array Slot) (hl : lv_has ls 5 []), W p l e (headSpec (Cond.codeWith yL_poke cL_poke 5 (some .int) [(0, 17, 20, 19)] :: lw_G) ({ frames := 5, cells := 0, slots := 0, locals := 114 })).room s m ar below meth c H locs 0 0 Q (F0 m 16 ls [.long b5, .int 0, .ref h1])) ?_ (fun j6 => ?_)
  · skip
    intro b5 H locs hK hP hD hS ls hl
    refine va_last hx hb hK hP hD hS 0 0 rfl rfl (iv_in (by decide : iv 0 0 0) (by decide) (by decide) : vp_in 0 1) dL_poke_16 (fun H locs hP hD hS => ?_)
    obtain ⟨nf7, enf7⟩ : ∃ z, z = vp_updL g0 (0 : Int32).toNatClampNeg b5 := ⟨_, rfl⟩
    obtain ⟨hP, hD⟩ := nv_eq (ws' := [(h1, .inl (y3, 1, .inr (.inl nf7))), (h0, .inr (11, [.ref h2, .ref h3, .ref h4, .ref h5, .ref h6, .int x2, .int x3])), (h3, .inr (1, [.ref h7, .ref h8, .ref h9, .ref h10])), (h7, .inl (y0, 32768, .inl u2_0)), (h10, .inr (9, [.ref h11, .ref h12, .int u2_1, .int u2_2, .int u2_3, .int u2_4])), (h12, .inl (y1, 3, .inl u2_5)), (h11, .inl (y2, 3, .inl u2_6)), (h9, .inr (5, [.int u2_7, .int u2_8, .int u2_9, .int u2_10, .int u2_11, .int u2_12])), (h8, .inr (7, [.int x14, .int u2_13, .int u2_14, .int u2_15, .int u2_16]))]) hP hD (by subst enf7; rfl)
    refine lv_goto (tgt := 24) hx hb dL_poke_17 (by decide) ?_
    refine lv_iconst (v := 0) hx hb dL_poke_24 (by decide) ?_
    rw [hQ]
    obtain ⟨hP9, hD9⟩ := nv_sub2 (wc := [(h0, .inr (11, [.ref h2, .ref h3, .ref h4, .ref h5, .ref h6, .int x2, .int x3])), (h3, .inr (1, [.ref h7, .ref h8, .ref h9, .ref h10])), (h7, .inl (y0, 32768, .inl u2_0)), (h10, .inr (9, [.ref h11, .ref h12, .int u2_1, .int u2_2, .int u2_3, .int u2_4])), (h12, .inl (y1, 3, .inl u2_5)), (h11, .inl (y2, 3, .inl u2_6)), (h9, .inr (5, [.int u2_7, .int u2_8, .int u2_9, .int u2_10, .int u2_11, .int u2_12])), (h8, .inr (7, [.int x14, .int u2_13, .int u2_14, .int u2_15, .int u2_16])), (h1, .inl (y3, 1, .inr (.inl nf7)))]) hP hD [1, 2, 3, 4, 5, 6, 7, 8, 0] (by decide) rfl
    have hK9 := hK.sub (tys' := [(y0, .int), (y1, .int), (y2, .int), (y3, .long)]) [1, 2, 3, 0] rfl
    exact W.iret (v := 0) hx hb hr (fun t ht hW => ⟨⟨0, (u2_0, u2_1, u2_2, u2_3, u2_4, u2_5, u2_6, u2_7, u2_8, u2_9, u2_10, u2_11, u2_12, u2_13, u2_14, u2_15, u2_16, nf7), rfl, ⟨rfl, iv_w iu2_4 (by decide) (by decide), trivial⟩, by rw [ht]; exact hP9, va_K.moved hW.alike hK9, hD9⟩, hS.F ht⟩) hS.2.2 dL_poke_25
  refine lv_if_eq (tgt := 15) hx hb dL_poke_8 (by decide) (fun c3 => ?_) (fun c3 => ?_)
  · skip
    subst c3
    refine lv_lconst (v := 0) hx hb dL_poke_15 (by decide) ?_
    exact j6 0 _ _ hK hP hD hS ls (lv_sub hl [] rfl)
  · skip
    have j8 : iv r1 1 1 := iv_neLo ir1 (by decide : iv 0 0 0) c3 (by decide)
    refine lv_lconst (v := 1) hx hb dL_poke_11 (by decide) ?_
    refine lv_goto (tgt := 16) hx hb dL_poke_12 (by decide) ?_
    exact j6 1 _ _ hK hP hD hS ls (lv_sub hl [] rfl)
set_option maxHeartbeats 100000000 in
set_option maxRecDepth 100000 in
theorem cX2_time_1 (l : Launch) (dC : Nat → ClassId) (dI : Nat → Nat → Nat) (h0 h1 h2 h3 : Nat) (sz : Nat) (x0 x1 x2 x3 x4 : Int32) (ix4 : iv x4 0 1) : Met l yX2_time (Cond.code yX2_time cX2_time 1 (some .int) :: lw_G) ({ frames := 0, cells := 0, slots := 0, locals := 0 }) (va_Pc [.ref h0] (fun U => U.heap.size = sz ∧ va_P (dC, dI) vwCl [(h0, .inr (2, [.ref h1, .ref h2, .ref h3, .int x0, .int x1, .int x2, .int x3, .int x4]))] U.heap ∧ va_K (dC, dI) vwCl [] U ∧ va_D (fun _ => True) [(h0, .inr (2, [.ref h1, .ref h2, .ref h3, .int x0, .int x1, .int x2, .int x3, .int x4]))])) (va_Qi (fun (r : Int32) (u : Unit) => True) (fun (u : Unit) (t : State) => va_P (dC, dI) vwCl [(h0, .inr (2, [.ref h1, .ref h2, .ref h3, .int x0, .int x1, .int x2, .int x3, .int x4]))] t.heap ∧ va_K (dC, dI) vwCl [] t ∧ va_D (va_A [(h0, .inr (2, [.ref h1, .ref h2, .ref h3, .int x0, .int x1, .int x2, .int x3, .int x4]))] sz) [(h0, .inr (2, [.ref h1, .ref h2, .ref h3, .int x0, .int x1, .int x2, .int x3, .int x4]))]) (va_A [(h0, .inr (2, [.ref h1, .ref h2, .ref h3, .int x0, .int x1, .int x2, .int x3, .int x4]))] sz)) 0 0 (va_A [(h0, .inr (2, [.ref h1, .ref h2, .ref h3, .int x0, .int x1, .int x2, .int x3, .int x4]))] sz) := by
  refine Met.ofW (cc := cX2_time) (maxL := 1) (ret := (some .int)) (by decide) rfl ?_
  intro p e s m args below meth c s₁ B hml hv
  obtain ⟨rfl, hsz, hP, hK, hD0⟩ := hv
  have hx := B.exec
  have hb := B.bytes
  have hr := B.returns
  have hts0 := atoms_spec (ws := Cond.code yX2_time cX2_time 1 (some .int) :: lw_G) B.pre
  have hG : ∀ w ∈ lw_G, w.before _ s = true := fun w h => hts0 w (List.mem_cons_of_mem _ h)
  have hown : s.vm.findClass RX2 = some m.cls := findClass_of_methodNamed B.named
  have hlocks := B.notSynchronized
  subst hsz
  have hD := hD0.self (sz := s.heap.size)
  generalize hAe : va_A [(h0, .inr (2, [.ref h1, .ref h2, .ref h3, .int x0, .int x1, .int x2, .int x3, .int x4]))] s.heap.size = A at hD ⊢
  have hA : ∀ q : Nat, s.heap.size ≤ q → A q := fun q h => by rw [← hAe]; exact Or.inr h
  have hS : va_S A s.heap s.heap [] := va_S.rf
  have hP : va_P (dC, dI) vwCl [(h0, .inr (2, [.ref h1, .ref h2, .ref h3, .int x0, .int x1, .int x2, .int x3, .int x4]))] s.heap := hP
  have hl := lv_entry ([.ref h0]) (n := 1) (Nat.le_of_ble_eq_true rfl)
  rw [lg_entry_eq]
  generalize (lg_sl ([.ref h0]) ++ List.replicate (1 - (lg_sl ([.ref h0])).length) Slot.unset).toArray = ls at hl ⊢
  have hl : lv_has ls 1 [(0, .ref h0)] := hl
  generalize ([.ref h0] : List Value).toArray = ar at hG ⊢
  refine wq (fun Q hQ => ?_)
  refine lv_aload_n hx hb dX2_time_0 rfl (lv_at hl 0 rfl) ?_
  refine va_get (D := (dC, dI)) (ci := 2) (v := .int x0) (C := RX2) (T := TX2) (N := 8) hx hb hG inGX2 hown hK hP 0 rfl rfl 3 (by decide) (hG _ wd_152) (fun _ h9 => h9) rfl dX2_time_1 ?_
  rw [hQ]
  obtain ⟨hP9, hD9⟩ := nv_sub2 (wc := [(h0, .inr (2, [.ref h1, .ref h2, .ref h3, .int x0, .int x1, .int x2, .int x3, .int x4]))]) hP hD [0] (by decide) rfl
  have hK9 := hK.sub (tys' := []) [] rfl
  exact W.iret (v := x0) hx hb hr (fun t ht hW => ⟨⟨x0, (), rfl, trivial, by rw [ht]; exact hP9, va_K.moved hW.alike hK9, hD9⟩, hS.F ht⟩) hS.2.2 dX2_time_4
set_option maxHeartbeats 100000000 in
set_option maxRecDepth 100000 in
theorem cX2_interrupts_1 (l : Launch) (dC : Nat → ClassId) (dI : Nat → Nat → Nat) (h0 h1 h2 h3 : Nat) (sz : Nat) (x0 x1 x2 x3 x4 : Int32) (ix4 : iv x4 0 1) : Met l yX2_interrupts (Cond.code yX2_interrupts cX2_interrupts 1 (some .int) :: lw_G) ({ frames := 0, cells := 0, slots := 0, locals := 0 }) (va_Pc [.ref h0] (fun U => U.heap.size = sz ∧ va_P (dC, dI) vwCl [(h0, .inr (2, [.ref h1, .ref h2, .ref h3, .int x0, .int x1, .int x2, .int x3, .int x4]))] U.heap ∧ va_K (dC, dI) vwCl [] U ∧ va_D (fun _ => True) [(h0, .inr (2, [.ref h1, .ref h2, .ref h3, .int x0, .int x1, .int x2, .int x3, .int x4]))])) (va_Qi (fun (r : Int32) (u : Unit) => True) (fun (u : Unit) (t : State) => va_P (dC, dI) vwCl [(h0, .inr (2, [.ref h1, .ref h2, .ref h3, .int x0, .int x1, .int x2, .int x3, .int x4]))] t.heap ∧ va_K (dC, dI) vwCl [] t ∧ va_D (va_A [(h0, .inr (2, [.ref h1, .ref h2, .ref h3, .int x0, .int x1, .int x2, .int x3, .int x4]))] sz) [(h0, .inr (2, [.ref h1, .ref h2, .ref h3, .int x0, .int x1, .int x2, .int x3, .int x4]))]) (va_A [(h0, .inr (2, [.ref h1, .ref h2, .ref h3, .int x0, .int x1, .int x2, .int x3, .int x4]))] sz)) 0 0 (va_A [(h0, .inr (2, [.ref h1, .ref h2, .ref h3, .int x0, .int x1, .int x2, .int x3, .int x4]))] sz) := by
  refine Met.ofW (cc := cX2_interrupts) (maxL := 1) (ret := (some .int)) (by decide) rfl ?_
  intro p e s m args below meth c s₁ B hml hv
  obtain ⟨rfl, hsz, hP, hK, hD0⟩ := hv
  have hx := B.exec
  have hb := B.bytes
  have hr := B.returns
  have hts0 := atoms_spec (ws := Cond.code yX2_interrupts cX2_interrupts 1 (some .int) :: lw_G) B.pre
  have hG : ∀ w ∈ lw_G, w.before _ s = true := fun w h => hts0 w (List.mem_cons_of_mem _ h)
  have hown : s.vm.findClass RX2 = some m.cls := findClass_of_methodNamed B.named
  have hlocks := B.notSynchronized
  subst hsz
  have hD := hD0.self (sz := s.heap.size)
  generalize hAe : va_A [(h0, .inr (2, [.ref h1, .ref h2, .ref h3, .int x0, .int x1, .int x2, .int x3, .int x4]))] s.heap.size = A at hD ⊢
  have hA : ∀ q : Nat, s.heap.size ≤ q → A q := fun q h => by rw [← hAe]; exact Or.inr h
  have hS : va_S A s.heap s.heap [] := va_S.rf
  have hP : va_P (dC, dI) vwCl [(h0, .inr (2, [.ref h1, .ref h2, .ref h3, .int x0, .int x1, .int x2, .int x3, .int x4]))] s.heap := hP
  have hl := lv_entry ([.ref h0]) (n := 1) (Nat.le_of_ble_eq_true rfl)
  rw [lg_entry_eq]
  generalize (lg_sl ([.ref h0]) ++ List.replicate (1 - (lg_sl ([.ref h0])).length) Slot.unset).toArray = ls at hl ⊢
  have hl : lv_has ls 1 [(0, .ref h0)] := hl
  generalize ([.ref h0] : List Value).toArray = ar at hG ⊢
  refine wq (fun Q hQ => ?_)
  refine lv_aload_n hx hb dX2_interrupts_0 rfl (lv_at hl 0 rfl) ?_
  refine va_get (D := (dC, dI)) (ci := 2) (v := .int x1) (C := RX2) (T := TX2) (N := 8) hx hb hG inGX2 hown hK hP 0 rfl rfl 4 (by decide) (hG _ wd_153) (fun _ h9 => h9) rfl dX2_interrupts_1 ?_
  rw [hQ]
  obtain ⟨hP9, hD9⟩ := nv_sub2 (wc := [(h0, .inr (2, [.ref h1, .ref h2, .ref h3, .int x0, .int x1, .int x2, .int x3, .int x4]))]) hP hD [0] (by decide) rfl
  have hK9 := hK.sub (tys' := []) [] rfl
  exact W.iret (v := x1) hx hb hr (fun t ht hW => ⟨⟨x1, (), rfl, trivial, by rw [ht]; exact hP9, va_K.moved hW.alike hK9, hD9⟩, hS.F ht⟩) hS.2.2 dX2_interrupts_4
