set_option maxHeartbeats 4000000 in
set_option maxRecDepth 100000 in
theorem cX12_sayName_1 (l : Launch) (dC : Nat → ClassId) (dI : Nat → Nat → Nat) (h0 h1 h2 h3 h4 h5 h6 h7 h8 h9 h10 h11 h12 h13 h14 h15 h16 h17 : Nat) (y0 y1 y2 : ClassId) (sz : Nat) (x0 x1 : Int32) (f0 : Nat → Int32) (g0 : Nat → Int64) (ix0 : iv x0 0 65534) (ix1 : iv x1 2 65536) (if0 : ∀ j, iv (f0 j) 0 48) (kf0_0 : f0 0 = 0) (kf0_1 : f0 1 = 1) (kf0_2 : f0 2 = 2) (kf0_3 : f0 3 = 3) (kf0_4 : f0 4 = 4) (kf0_5 : f0 5 = 5) (kf0_6 : f0 6 = 6) (kf0_7 : f0 7 = 7) (kf0_8 : f0 8 = 8) (kf0_9 : f0 9 = 9) (kf0_10 : f0 10 = 10) (kf0_11 : f0 11 = 11) (kf0_12 : f0 12 = 20) (kf0_13 : f0 13 = 21) (kf0_14 : f0 14 = 22) (kf0_15 : f0 15 = 23) (kf0_16 : f0 16 = 24) (kf0_17 : f0 17 = 25) (kf0_18 : f0 18 = 30) (kf0_19 : f0 19 = 31) (kf0_20 : f0 20 = 32) (kf0_21 : f0 21 = 33) (kf0_22 : f0 22 = 34) (kf0_23 : f0 23 = 35) (kf0_24 : f0 24 = 36) (kf0_25 : f0 25 = 37) (kf0_26 : f0 26 = 40) (kf0_27 : f0 27 = 41) (kf0_28 : f0 28 = 42) (kf0_29 : f0 29 = 43) (kf0_30 : f0 30 = 44) (kf0_31 : f0 31 = 45) (kf0_32 : f0 32 = 46) (kf0_33 : f0 33 = 47) (kf0_34 : f0 34 = 48) (kg0_0 : g0 0 = 7171958) (kg0_1 : g0 1 = 6382692) (kg0_2 : g0 2 = 1633969251) (kg0_3 : g0 3 = 1937072739) (kg0_4 : g0 4 = 7566690) (kg0_5 : g0 5 = 6516080) (kg0_6 : g0 6 = 1684104292) (kg0_7 : g0 7 = 6449524) (kg0_8 : g0 8 = 6449507) (kg0_9 : g0 9 = 6449523) (kg0_10 : g0 10 = 7892850) (kg0_11 : g0 11 = 6385252) (kg0_12 : g0 12 = 7500387) (kg0_13 : g0 13 = 1937207394) (kg0_14 : g0 14 = 7500385) (kg0_15 : g0 15 = 7567476) (kg0_16 : g0 16 = 1886745448) (kg0_17 : g0 17 = 1667329132) (kg0_18 : g0 18 = 6975077) (kg0_19 : g0 19 = 6972785) (kg0_20 : g0 20 = 6975075) (kg0_21 : g0 21 = 27235) (kg0_22 : g0 22 = 27246) (kg0_23 : g0 23 = 6973285) (kg0_24 : g0 24 = 27244) (kg0_25 : g0 25 = 6974832) (kg0_26 : g0 26 = 7303783) (kg0_27 : g0 27 = 2003792484) (kg0_28 : g0 28 = 1652126821) (kg0_29 : g0 29 = 7497076) (kg0_30 : g0 30 = 1919251561) (kg0_31 : g0 31 = 7237488) (kg0_32 : g0 32 = 25202) (kg0_33 : g0 33 = 7368560) (kg0_34 : g0 34 = 6515826) : Met l yX12_sayName (Cond.code yX12_sayName cX12_sayName 5 none :: lw_G) ({ frames := 1, cells := 0, slots := 0, locals := 21 }) (va_Pc [.ref h0, .int 41] (fun U => U.heap.size = sz ∧ va_P (dC, dI) vwCl [(h0, .inr (12, [.int 0, .ref h1, .ref h2, .int 0, .int 0, .int 0, .int 0, .int 0, .int 0, .int 0, .int 0, .int 0, .int 0, .int 0, .int 0, .int 0, .int 0, .int 0, .ref h3, .ref h4, .ref h5, .ref h6, .int 0, .int 0, .int 0, .int 0, .int 0, .int 0, .int 0, .int 0, .ref h7, .int 0, .int 0, .int 0, .int 0, .ref h8, .ref h9, .int 0, .int 0, .long 0, .int 0, .int 0, .ref h10, .ref h11, .ref h12, .ref h13, .ref h14, .int 0, .int 0, .int 0, .int 0, .int 0, .int 0, .int 0, .int 0, .int 0, .ref h15, .ref h16, .int 0, .int 0, .int 0, .int 0, .int 0, .int 0, .int 0, .int 0, .ref h17, .int 0, .int 0, .int x0, .int x1, .int 0])), (h9, .inl (y0, 35, .inl f0)), (h8, .inl (y1, 35, .inr (.inl g0))), (h17, .inl (y2, 100, .inl (fun _ => 0)))] U.heap ∧ va_K (dC, dI) vwCl [(y0, .int), (y1, .long), (y2, .byte)] U ∧ va_D (fun _ => True) [(h0, .inr (12, [.int 0, .ref h1, .ref h2, .int 0, .int 0, .int 0, .int 0, .int 0, .int 0, .int 0, .int 0, .int 0, .int 0, .int 0, .int 0, .int 0, .int 0, .int 0, .ref h3, .ref h4, .ref h5, .ref h6, .int 0, .int 0, .int 0, .int 0, .int 0, .int 0, .int 0, .int 0, .ref h7, .int 0, .int 0, .int 0, .int 0, .ref h8, .ref h9, .int 0, .int 0, .long 0, .int 0, .int 0, .ref h10, .ref h11, .ref h12, .ref h13, .ref h14, .int 0, .int 0, .int 0, .int 0, .int 0, .int 0, .int 0, .int 0, .int 0, .ref h15, .ref h16, .int 0, .int 0, .int 0, .int 0, .int 0, .int 0, .int 0, .int 0, .ref h17, .int 0, .int 0, .int x0, .int x1, .int 0])), (h9, .inl (y0, 35, .inl f0)), (h8, .inl (y1, 35, .inr (.inl g0))), (h17, .inl (y2, 100, .inl (fun _ => 0)))])) (va_Qv (fun (u : (Nat → Int32)) => (∀ j, iv (u j) (-128) 127) ∧ True) (fun (u : (Nat → Int32)) (t : State) => va_P (dC, dI) vwCl [(h0, .inr (12, [.int 0, .ref h1, .ref h2, .int 0, .int 0, .int 0, .int 0, .int 0, .int 0, .int 0, .int 0, .int 0, .int 0, .int 0, .int 0, .int 0, .int 0, .int 0, .ref h3, .ref h4, .ref h5, .ref h6, .int 0, .int 0, .int 0, .int 0, .int 0, .int 0, .int 0, .int 0, .ref h7, .int 0, .int 0, .int 0, .int 0, .ref h8, .ref h9, .int 0, .int 0, .long 0, .int 0, .int 0, .ref h10, .ref h11, .ref h12, .ref h13, .ref h14, .int 0, .int 0, .int 0, .int 0, .int 0, .int 0, .int 0, .int 0, .int 0, .ref h15, .ref h16, .int 0, .int 0, .int 0, .int 0, .int 0, .int 0, .int 0, .int 0, .ref h17, .int 4, .int 0, .int x0, .int x1, .int 0])), (h9, .inl (y0, 35, .inl f0)), (h8, .inl (y1, 35, .inr (.inl g0))), (h17, .inl (y2, 100, .inl u))] t.heap ∧ va_K (dC, dI) vwCl [(y0, .int), (y1, .long), (y2, .byte)] t ∧ va_D (va_A [(h0, .inr (12, [.int 0, .ref h1, .ref h2, .int 0, .int 0, .int 0, .int 0, .int 0, .int 0, .int 0, .int 0, .int 0, .int 0, .int 0, .int 0, .int 0, .int 0, .int 0, .ref h3, .ref h4, .ref h5, .ref h6, .int 0, .int 0, .int 0, .int 0, .int 0, .int 0, .int 0, .int 0, .ref h7, .int 0, .int 0, .int 0, .int 0, .ref h8, .ref h9, .int 0, .int 0, .long 0, .int 0, .int 0, .ref h10, .ref h11, .ref h12, .ref h13, .ref h14, .int 0, .int 0, .int 0, .int 0, .int 0, .int 0, .int 0, .int 0, .int 0, .ref h15, .ref h16, .int 0, .int 0, .int 0, .int 0, .int 0, .int 0, .int 0, .int 0, .ref h17, .int 0, .int 0, .int x0, .int x1, .int 0])), (h9, .inl (y0, 35, .inl f0)), (h8, .inl (y1, 35, .inr (.inl g0))), (h17, .inl (y2, 100, .inl (fun _ => 0)))] sz) [(h0, .inr (12, [.int 0, .ref h1, .ref h2, .int 0, .int 0, .int 0, .int 0, .int 0, .int 0, .int 0, .int 0, .int 0, .int 0, .int 0, .int 0, .int 0, .int 0, .int 0, .ref h3, .ref h4, .ref h5, .ref h6, .int 0, .int 0, .int 0, .int 0, .int 0, .int 0, .int 0, .int 0, .ref h7, .int 0, .int 0, .int 0, .int 0, .ref h8, .ref h9, .int 0, .int 0, .long 0, .int 0, .int 0, .ref h10, .ref h11, .ref h12, .ref h13, .ref h14, .int 0, .int 0, .int 0, .int 0, .int 0, .int 0, .int 0, .int 0, .int 0, .ref h15, .ref h16, .int 0, .int 0, .int 0, .int 0, .int 0, .int 0, .int 0, .int 0, .ref h17, .int 4, .int 0, .int x0, .int x1, .int 0])), (h9, .inl (y0, 35, .inl f0)), (h8, .inl (y1, 35, .inr (.inl g0))), (h17, .inl (y2, 100, .inl u))]) (va_A [(h0, .inr (12, [.int 0, .ref h1, .ref h2, .int 0, .int 0, .int 0, .int 0, .int 0, .int 0, .int 0, .int 0, .int 0, .int 0, .int 0, .int 0, .int 0, .int 0, .int 0, .ref h3, .ref h4, .ref h5, .ref h6, .int 0, .int 0, .int 0, .int 0, .int 0, .int 0, .int 0, .int 0, .ref h7, .int 0, .int 0, .int 0, .int 0, .ref h8, .ref h9, .int 0, .int 0, .long 0, .int 0, .int 0, .ref h10, .ref h11, .ref h12, .ref h13, .ref h14, .int 0, .int 0, .int 0, .int 0, .int 0, .int 0, .int 0, .int 0, .int 0, .ref h15, .ref h16, .int 0, .int 0, .int 0, .int 0, .int 0, .int 0, .int 0, .int 0, .ref h17, .int 0, .int 0, .int x0, .int x1, .int 0])), (h9, .inl (y0, 35, .inl f0)), (h8, .inl (y1, 35, .inr (.inl g0))), (h17, .inl (y2, 100, .inl (fun _ => 0)))] sz)) 0 0 (va_A [(h0, .inr (12, [.int 0, .ref h1, .ref h2, .int 0, .int 0, .int 0, .int 0, .int 0, .int 0, .int 0, .int 0, .int 0, .int 0, .int 0, .int 0, .int 0, .int 0, .int 0, .ref h3, .ref h4, .ref h5, .ref h6, .int 0, .int 0, .int 0, .int 0, .int 0, .int 0, .int 0, .int 0, .ref h7, .int 0, .int 0, .int 0, .int 0, .ref h8, .ref h9, .int 0, .int 0, .long 0, .int 0, .int 0, .ref h10, .ref h11, .ref h12, .ref h13, .ref h14, .int 0, .int 0, .int 0, .int 0, .int 0, .int 0, .int 0, .int 0, .int 0, .ref h15, .ref h16, .int 0, .int 0, .int 0, .int 0, .int 0, .int 0, .int 0, .int 0, .ref h17, .int 0, .int 0, .int x0, .int x1, .int 0])), (h9, .inl (y0, 35, .inl f0)), (h8, .inl (y1, 35, .inr (.inl g0))), (h17, .inl (y2, 100, .inl (fun _ => 0)))] sz) := by
  refine Met.ofW (cc := cX12_sayName) (maxL := 5) (ret := none) (by decide) rfl ?_
  intro p e s m args below meth c s₁ B hml hv
  obtain ⟨rfl, hsz, hP, hK, hD0⟩ := hv
  have hx := B.exec
  have hb := B.bytes
  have hr := B.returns
  have hts0 := atoms_spec (ws := Cond.code yX12_sayName cX12_sayName 5 none :: lw_G) B.pre
  have hG : ∀ w ∈ lw_G, w.before _ s = true := fun w h => hts0 w (List.mem_cons_of_mem _ h)
  have hown : s.vm.findClass RX12 = some m.cls := findClass_of_methodNamed B.named
  have hlocks := B.notSynchronized
  subst hsz
  have hD := hD0.self (sz := s.heap.size)
  generalize hAe : va_A [(h0, .inr (12, [.int 0, .ref h1, .ref h2, .int 0, .int 0, .int 0, .int 0, .int 0, .int 0, .int 0, .int 0, .int 0, .int 0, .int 0, .int 0, .int 0, .int 0, .int 0, .ref h3, .ref h4, .ref h5, .ref h6, .int 0, .int 0, .int 0, .int 0, .int 0, .int 0, .int 0, .int 0, .ref h7, .int 0, .int 0, .int 0, .int 0, .ref h8, .ref h9, .int 0, .int 0, .long 0, .int 0, .int 0, .ref h10, .ref h11, .ref h12, .ref h13, .ref h14, .int 0, .int 0, .int 0, .int 0, .int 0, .int 0, .int 0, .int 0, .int 0, .ref h15, .ref h16, .int 0, .int 0, .int 0, .int 0, .int 0, .int 0, .int 0, .int 0, .ref h17, .int 0, .int 0, .int x0, .int x1, .int 0])), (h9, .inl (y0, 35, .inl f0)), (h8, .inl (y1, 35, .inr (.inl g0))), (h17, .inl (y2, 100, .inl (fun _ => 0)))] s.heap.size = A at hD ⊢
  have hA : ∀ q : Nat, s.heap.size ≤ q → A q := fun q h => by rw [← hAe]; exact Or.inr h
  have hS : va_S A s.heap s.heap [] := va_S.rf
  have hP : va_P (dC, dI) vwCl [(h0, .inr (12, [.int 0, .ref h1, .ref h2, .int 0, .int 0, .int 0, .int 0, .int 0, .int 0, .int 0, .int 0, .int 0, .int 0, .int 0, .int 0, .int 0, .int 0, .int 0, .ref h3, .ref h4, .ref h5, .ref h6, .int 0, .int 0, .int 0, .int 0, .int 0, .int 0, .int 0, .int 0, .ref h7, .int 0, .int 0, .int 0, .int 0, .ref h8, .ref h9, .int 0, .int 0, .long 0, .int 0, .int 0, .ref h10, .ref h11, .ref h12, .ref h13, .ref h14, .int 0, .int 0, .int 0, .int 0, .int 0, .int 0, .int 0, .int 0, .int 0, .ref h15, .ref h16, .int 0, .int 0, .int 0, .int 0, .int 0, .int 0, .int 0, .int 0, .ref h17, .int 0, .int 0, .int x0, .int x1, .int 0])), (h9, .inl (y0, 35, .inl f0)), (h8, .inl (y1, 35, .inr (.inl g0))), (h17, .inl (y2, 100, .inl (fun _ => 0)))] s.heap := hP
  have hl := lv_entry ([.ref h0, .int 41]) (n := 5) (Nat.le_of_ble_eq_true rfl)
  rw [lg_entry_eq]
  generalize (lg_sl ([.ref h0, .int 41]) ++ List.replicate (5 - (lg_sl ([.ref h0, .int 41])).length) Slot.unset).toArray = ls at hl ⊢
  have hl : lv_has ls 5 [(0, .ref h0), (1, .int 41)] := hl
  refine lv_iconst (v := 0) hx hb dX12_sayName_0 (by decide) ?_
  refine lv_istore_n (lv' := [(2, .int 0), (0, .ref h0), (1, .int 41)]) hx hb dX12_sayName_1 rfl hl (by decide) rfl (fun ls hl => ?_)
  refine lv_iload_n hx hb dX12_sayName_2 rfl (lv_at hl 0 rfl) ?_
  refine lv_bipush (v := 35) hx hb dX12_sayName_3 (by decide) ?_
  refine lv_icmp_ge (tgt := 66) hx hb dX12_sayName_5 (by decide) (fun c => absurd c (by decide)) (fun _ => ?_)
  refine lv_aload_n hx hb dX12_sayName_8 rfl (lv_at hl 1 rfl) ?_
  refine va_get (D := (dC, dI)) (ci := 12) (v := .ref h9) (C := RX12) (T := TX12) (N := 72) hx hb hG inGX12 hown hK hP 0 rfl rfl 36 (by decide) (hG _ wd_1343) (fun _ h9 => h9) rfl dX12_sayName_9 ?_
  refine lv_iload_n hx hb dX12_sayName_12 rfl (lv_at hl 0 rfl) ?_
  refine va_iald hx hb hK hP 1 0 rfl rfl (iv_in (by decide : iv 0 0 0) (by decide) (by decide) : vp_in 0 35) dX12_sayName_13 ?_
  refine lv_val (y := 0) (show f0 (0 : Int32).toNatClampNeg = 0 from kf0_0) ?_
  refine lv_iload_n hx hb dX12_sayName_14 rfl (lv_at hl 2 rfl) ?_
  refine lv_icmp_eq (tgt := 21) hx hb dX12_sayName_15 (by decide) (fun c => absurd c (by decide)) (fun _ => ?_)
  refine lv_goto (tgt := 60) hx hb dX12_sayName_18 (by decide) ?_
  refine lv_iinc (v := 1) (lv' := [(2, .int 1), (0, .ref h0), (1, .int 41)]) hx hb dX12_sayName_60 hl (k := 0) rfl (by decide) (by decide) rfl (fun ls hl => ?_)
  refine lv_goto (tgt := 2) hx hb dX12_sayName_63 (by decide) ?_
  refine lv_iload_n hx hb dX12_sayName_2 rfl (lv_at hl 0 rfl) ?_
  refine lv_bipush (v := 35) hx hb dX12_sayName_3 (by decide) ?_
  refine lv_icmp_ge (tgt := 66) hx hb dX12_sayName_5 (by decide) (fun c => absurd c (by decide)) (fun _ => ?_)
  refine lv_aload_n hx hb dX12_sayName_8 rfl (lv_at hl 1 rfl) ?_
  refine va_get (D := (dC, dI)) (ci := 12) (v := .ref h9) (C := RX12) (T := TX12) (N := 72) hx hb hG inGX12 hown hK hP 0 rfl rfl 36 (by decide) (hG _ wd_1343) (fun _ h9 => h9) rfl dX12_sayName_9 ?_
  refine lv_iload_n hx hb dX12_sayName_12 rfl (lv_at hl 0 rfl) ?_
  refine va_iald hx hb hK hP 1 0 rfl rfl (iv_in (by decide : iv 1 1 1) (by decide) (by decide) : vp_in 1 35) dX12_sayName_13 ?_
  refine lv_val (y := 1) (show f0 (1 : Int32).toNatClampNeg = 1 from kf0_1) ?_
  refine lv_iload_n hx hb dX12_sayName_14 rfl (lv_at hl 2 rfl) ?_
  refine lv_icmp_eq (tgt := 21) hx hb dX12_sayName_15 (by decide) (fun c => absurd c (by decide)) (fun _ => ?_)
  refine lv_goto (tgt := 60) hx hb dX12_sayName_18 (by decide) ?_
  refine lv_iinc (v := 2) (lv' := [(2, .int 2), (0, .ref h0), (1, .int 41)]) hx hb dX12_sayName_60 hl (k := 0) rfl (by decide) (by decide) rfl (fun ls hl => ?_)
  refine lv_goto (tgt := 2) hx hb dX12_sayName_63 (by decide) ?_
  refine lv_iload_n hx hb dX12_sayName_2 rfl (lv_at hl 0 rfl) ?_
  refine lv_bipush (v := 35) hx hb dX12_sayName_3 (by decide) ?_
  refine lv_icmp_ge (tgt := 66) hx hb dX12_sayName_5 (by decide) (fun c => absurd c (by decide)) (fun _ => ?_)
  refine lv_aload_n hx hb dX12_sayName_8 rfl (lv_at hl 1 rfl) ?_
  refine va_get (D := (dC, dI)) (ci := 12) (v := .ref h9) (C := RX12) (T := TX12) (N := 72) hx hb hG inGX12 hown hK hP 0 rfl rfl 36 (by decide) (hG _ wd_1343) (fun _ h9 => h9) rfl dX12_sayName_9 ?_
  refine lv_iload_n hx hb dX12_sayName_12 rfl (lv_at hl 0 rfl) ?_
  refine va_iald hx hb hK hP 1 0 rfl rfl (iv_in (by decide : iv 2 2 2) (by decide) (by decide) : vp_in 2 35) dX12_sayName_13 ?_
  refine lv_val (y := 2) (show f0 (2 : Int32).toNatClampNeg = 2 from kf0_2) ?_
  refine lv_iload_n hx hb dX12_sayName_14 rfl (lv_at hl 2 rfl) ?_
  refine lv_icmp_eq (tgt := 21) hx hb dX12_sayName_15 (by decide) (fun c => absurd c (by decide)) (fun _ => ?_)
  refine lv_goto (tgt := 60) hx hb dX12_sayName_18 (by decide) ?_
  refine lv_iinc (v := 3) (lv' := [(2, .int 3), (0, .ref h0), (1, .int 41)]) hx hb dX12_sayName_60 hl (k := 0) rfl (by decide) (by decide) rfl (fun ls hl => ?_)
  refine lv_goto (tgt := 2) hx hb dX12_sayName_63 (by decide) ?_
  refine lv_iload_n hx hb dX12_sayName_2 rfl (lv_at hl 0 rfl) ?_
  refine lv_bipush (v := 35) hx hb dX12_sayName_3 (by decide) ?_
  refine lv_icmp_ge (tgt := 66) hx hb dX12_sayName_5 (by decide) (fun c => absurd c (by decide)) (fun _ => ?_)
  refine lv_aload_n hx hb dX12_sayName_8 rfl (lv_at hl 1 rfl) ?_
  refine va_get (D := (dC, dI)) (ci := 12) (v := .ref h9) (C := RX12) (T := TX12) (N := 72) hx hb hG inGX12 hown hK hP 0 rfl rfl 36 (by decide) (hG _ wd_1343) (fun _ h9 => h9) rfl dX12_sayName_9 ?_
  refine lv_iload_n hx hb dX12_sayName_12 rfl (lv_at hl 0 rfl) ?_
  refine va_iald hx hb hK hP 1 0 rfl rfl (iv_in (by decide : iv 3 3 3) (by decide) (by decide) : vp_in 3 35) dX12_sayName_13 ?_
  refine lv_val (y := 3) (show f0 (3 : Int32).toNatClampNeg = 3 from kf0_3) ?_
  refine lv_iload_n hx hb dX12_sayName_14 rfl (lv_at hl 2 rfl) ?_
  refine lv_icmp_eq (tgt := 21) hx hb dX12_sayName_15 (by decide) (fun c => absurd c (by decide)) (fun _ => ?_)
  refine lv_goto (tgt := 60) hx hb dX12_sayName_18 (by decide) ?_
  refine lv_iinc (v := 4) (lv' := [(2, .int 4), (0, .ref h0), (1, .int 41)]) hx hb dX12_sayName_60 hl (k := 0) rfl (by decide) (by decide) rfl (fun ls hl => ?_)
  refine lv_goto (tgt := 2) hx hb dX12_sayName_63 (by decide) ?_
  refine lv_iload_n hx hb dX12_sayName_2 rfl (lv_at hl 0 rfl) ?_
  refine lv_bipush (v := 35) hx hb dX12_sayName_3 (by decide) ?_
  refine lv_icmp_ge (tgt := 66) hx hb dX12_sayName_5 (by decide) (fun c => absurd c (by decide)) (fun _ => ?_)
  refine lv_aload_n hx hb dX12_sayName_8 rfl (lv_at hl 1 rfl) ?_
  refine va_get (D := (dC, dI)) (ci := 12) (v := .ref h9) (C := RX12) (T := TX12) (N := 72) hx hb hG inGX12 hown hK hP 0 rfl rfl 36 (by decide) (hG _ wd_1343) (fun _ h9 => h9) rfl dX12_sayName_9 ?_
  refine lv_iload_n hx hb dX12_sayName_12 rfl (lv_at hl 0 rfl) ?_
  refine va_iald hx hb hK hP 1 0 rfl rfl (iv_in (by decide : iv 4 4 4) (by decide) (by decide) : vp_in 4 35) dX12_sayName_13 ?_
  refine lv_val (y := 4) (show f0 (4 : Int32).toNatClampNeg = 4 from kf0_4) ?_
  refine lv_iload_n hx hb dX12_sayName_14 rfl (lv_at hl 2 rfl) ?_
  refine lv_icmp_eq (tgt := 21) hx hb dX12_sayName_15 (by decide) (fun c => absurd c (by decide)) (fun _ => ?_)
  refine lv_goto (tgt := 60) hx hb dX12_sayName_18 (by decide) ?_
  refine lv_iinc (v := 5) (lv' := [(2, .int 5), (0, .ref h0), (1, .int 41)]) hx hb dX12_sayName_60 hl (k := 0) rfl (by decide) (by decide) rfl (fun ls hl => ?_)
  refine lv_goto (tgt := 2) hx hb dX12_sayName_63 (by decide) ?_
  refine lv_iload_n hx hb dX12_sayName_2 rfl (lv_at hl 0 rfl) ?_
  refine lv_bipush (v := 35) hx hb dX12_sayName_3 (by decide) ?_
  refine lv_icmp_ge (tgt := 66) hx hb dX12_sayName_5 (by decide) (fun c => absurd c (by decide)) (fun _ => ?_)
  refine lv_aload_n hx hb dX12_sayName_8 rfl (lv_at hl 1 rfl) ?_
  refine va_get (D := (dC, dI)) (ci := 12) (v := .ref h9) (C := RX12) (T := TX12) (N := 72) hx hb hG inGX12 hown hK hP 0 rfl rfl 36 (by decide) (hG _ wd_1343) (fun _ h9 => h9) rfl dX12_sayName_9 ?_
  refine lv_iload_n hx hb dX12_sayName_12 rfl (lv_at hl 0 rfl) ?_
  refine va_iald hx hb hK hP 1 0 rfl rfl (iv_in (by decide : iv 5 5 5) (by decide) (by decide) : vp_in 5 35) dX12_sayName_13 ?_
  refine lv_val (y := 5) (show f0 (5 : Int32).toNatClampNeg = 5 from kf0_5) ?_
  refine lv_iload_n hx hb dX12_sayName_14 rfl (lv_at hl 2 rfl) ?_
  refine lv_icmp_eq (tgt := 21) hx hb dX12_sayName_15 (by decide) (fun c => absurd c (by decide)) (fun _ => ?_)
  refine lv_goto (tgt := 60) hx hb dX12_sayName_18 (by decide) ?_
  refine lv_iinc (v := 6) (lv' := [(2, .int 6), (0, .ref h0), (1, .int 41)]) hx hb dX12_sayName_60 hl (k := 0) rfl (by decide) (by decide) rfl (fun ls hl => ?_)
  refine lv_goto (tgt := 2) hx hb dX12_sayName_63 (by decide) ?_
  refine lv_iload_n hx hb dX12_sayName_2 rfl (lv_at hl 0 rfl) ?_
  refine lv_bipush (v := 35) hx hb dX12_sayName_3 (by decide) ?_
  refine lv_icmp_ge (tgt := 66) hx hb dX12_sayName_5 (by decide) (fun c => absurd c (by decide)) (fun _ => ?_)
  refine lv_aload_n hx hb dX12_sayName_8 rfl (lv_at hl 1 rfl) ?_
  refine va_get (D := (dC, dI)) (ci := 12) (v := .ref h9) (C := RX12) (T := TX12) (N := 72) hx hb hG inGX12 hown hK hP 0 rfl rfl 36 (by decide) (hG _ wd_1343) (fun _ h9 => h9) rfl dX12_sayName_9 ?_
  refine lv_iload_n hx hb dX12_sayName_12 rfl (lv_at hl 0 rfl) ?_
  refine va_iald hx hb hK hP 1 0 rfl rfl (iv_in (by decide : iv 6 6 6) (by decide) (by decide) : vp_in 6 35) dX12_sayName_13 ?_
  refine lv_val (y := 6) (show f0 (6 : Int32).toNatClampNeg = 6 from kf0_6) ?_
  refine lv_iload_n hx hb dX12_sayName_14 rfl (lv_at hl 2 rfl) ?_
  refine lv_icmp_eq (tgt := 21) hx hb dX12_sayName_15 (by decide) (fun c => absurd c (by decide)) (fun _ => ?_)
  refine lv_goto (tgt := 60) hx hb dX12_sayName_18 (by decide) ?_
  refine lv_iinc (v := 7) (lv' := [(2, .int 7), (0, .ref h0), (1, .int 41)]) hx hb dX12_sayName_60 hl (k := 0) rfl (by decide) (by decide) rfl (fun ls hl => ?_)
  refine lv_goto (tgt := 2) hx hb dX12_sayName_63 (by decide) ?_
  refine lv_iload_n hx hb dX12_sayName_2 rfl (lv_at hl 0 rfl) ?_
  refine lv_bipush (v := 35) hx hb dX12_sayName_3 (by decide) ?_
  refine lv_icmp_ge (tgt := 66) hx hb dX12_sayName_5 (by decide) (fun c => absurd c (by decide)) (fun _ => ?_)
  refine lv_aload_n hx hb dX12_sayName_8 rfl (lv_at hl 1 rfl) ?_
  refine va_get (D := (dC, dI)) (ci := 12) (v := .ref h9) (C := RX12) (T := TX12) (N := 72) hx hb hG inGX12 hown hK hP 0 rfl rfl 36 (by decide) (hG _ wd_1343) (fun _ h9 => h9) rfl dX12_sayName_9 ?_
  refine lv_iload_n hx hb dX12_sayName_12 rfl (lv_at hl 0 rfl) ?_
  refine va_iald hx hb hK hP 1 0 rfl rfl (iv_in (by decide : iv 7 7 7) (by decide) (by decide) : vp_in 7 35) dX12_sayName_13 ?_
  refine lv_val (y := 7) (show f0 (7 : Int32).toNatClampNeg = 7 from kf0_7) ?_
  refine lv_iload_n hx hb dX12_sayName_14 rfl (lv_at hl 2 rfl) ?_
  refine lv_icmp_eq (tgt := 21) hx hb dX12_sayName_15 (by decide) (fun c => absurd c (by decide)) (fun _ => ?_)
  refine lv_goto (tgt := 60) hx hb dX12_sayName_18 (by decide) ?_
  refine lv_iinc (v := 8) (lv' := [(2, .int 8), (0, .ref h0), (1, .int 41)]) hx hb dX12_sayName_60 hl (k := 0) rfl (by decide) (by decide) rfl (fun ls hl => ?_)
  refine lv_goto (tgt := 2) hx hb dX12_sayName_63 (by decide) ?_
  refine lv_iload_n hx hb dX12_sayName_2 rfl (lv_at hl 0 rfl) ?_
  refine lv_bipush (v := 35) hx hb dX12_sayName_3 (by decide) ?_
  refine lv_icmp_ge (tgt := 66) hx hb dX12_sayName_5 (by decide) (fun c => absurd c (by decide)) (fun _ => ?_)
  refine lv_aload_n hx hb dX12_sayName_8 rfl (lv_at hl 1 rfl) ?_
  refine va_get (D := (dC, dI)) (ci := 12) (v := .ref h9) (C := RX12) (T := TX12) (N := 72) hx hb hG inGX12 hown hK hP 0 rfl rfl 36 (by decide) (hG _ wd_1343) (fun _ h9 => h9) rfl dX12_sayName_9 ?_
  refine lv_iload_n hx hb dX12_sayName_12 rfl (lv_at hl 0 rfl) ?_
  refine va_iald hx hb hK hP 1 0 rfl rfl (iv_in (by decide : iv 8 8 8) (by decide) (by decide) : vp_in 8 35) dX12_sayName_13 ?_
  refine lv_val (y := 8) (show f0 (8 : Int32).toNatClampNeg = 8 from kf0_8) ?_
  refine lv_iload_n hx hb dX12_sayName_14 rfl (lv_at hl 2 rfl) ?_
  refine lv_icmp_eq (tgt := 21) hx hb dX12_sayName_15 (by decide) (fun c => absurd c (by decide)) (fun _ => ?_)
  refine lv_goto (tgt := 60) hx hb dX12_sayName_18 (by decide) ?_
  refine lv_iinc (v := 9) (lv' := [(2, .int 9), (0, .ref h0), (1, .int 41)]) hx hb dX12_sayName_60 hl (k := 0) rfl (by decide) (by decide) rfl (fun ls hl => ?_)
  refine lv_goto (tgt := 2) hx hb dX12_sayName_63 (by decide) ?_
  refine lv_iload_n hx hb dX12_sayName_2 rfl (lv_at hl 0 rfl) ?_
  refine lv_bipush (v := 35) hx hb dX12_sayName_3 (by decide) ?_
  refine lv_icmp_ge (tgt := 66) hx hb dX12_sayName_5 (by decide) (fun c => absurd c (by decide)) (fun _ => ?_)
  refine lv_aload_n hx hb dX12_sayName_8 rfl (lv_at hl 1 rfl) ?_
  refine va_get (D := (dC, dI)) (ci := 12) (v := .ref h9) (C := RX12) (T := TX12) (N := 72) hx hb hG inGX12 hown hK hP 0 rfl rfl 36 (by decide) (hG _ wd_1343) (fun _ h9 => h9) rfl dX12_sayName_9 ?_
  refine lv_iload_n hx hb dX12_sayName_12 rfl (lv_at hl 0 rfl) ?_
  refine va_iald hx hb hK hP 1 0 rfl rfl (iv_in (by decide : iv 9 9 9) (by decide) (by decide) : vp_in 9 35) dX12_sayName_13 ?_
  refine lv_val (y := 9) (show f0 (9 : Int32).toNatClampNeg = 9 from kf0_9) ?_
  refine lv_iload_n hx hb dX12_sayName_14 rfl (lv_at hl 2 rfl) ?_
  refine lv_icmp_eq (tgt := 21) hx hb dX12_sayName_15 (by decide) (fun c => absurd c (by decide)) (fun _ => ?_)
  refine lv_goto (tgt := 60) hx hb dX12_sayName_18 (by decide) ?_
  refine lv_iinc (v := 10) (lv' := [(2, .int 10), (0, .ref h0), (1, .int 41)]) hx hb dX12_sayName_60 hl (k := 0) rfl (by decide) (by decide) rfl (fun ls hl => ?_)
  refine lv_goto (tgt := 2) hx hb dX12_sayName_63 (by decide) ?_
  refine lv_iload_n hx hb dX12_sayName_2 rfl (lv_at hl 0 rfl) ?_
  refine lv_bipush (v := 35) hx hb dX12_sayName_3 (by decide) ?_
  refine lv_icmp_ge (tgt := 66) hx hb dX12_sayName_5 (by decide) (fun c => absurd c (by decide)) (fun _ => ?_)
  refine lv_aload_n hx hb dX12_sayName_8 rfl (lv_at hl 1 rfl) ?_
  refine va_get (D := (dC, dI)) (ci := 12) (v := .ref h9) (C := RX12) (T := TX12) (N := 72) hx hb hG inGX12 hown hK hP 0 rfl rfl 36 (by decide) (hG _ wd_1343) (fun _ h9 => h9) rfl dX12_sayName_9 ?_
  refine lv_iload_n hx hb dX12_sayName_12 rfl (lv_at hl 0 rfl) ?_
  refine va_iald hx hb hK hP 1 0 rfl rfl (iv_in (by decide : iv 10 10 10) (by decide) (by decide) : vp_in 10 35) dX12_sayName_13 ?_
  refine lv_val (y := 10) (show f0 (10 : Int32).toNatClampNeg = 10 from kf0_10) ?_
  refine lv_iload_n hx hb dX12_sayName_14 rfl (lv_at hl 2 rfl) ?_
  refine lv_icmp_eq (tgt := 21) hx hb dX12_sayName_15 (by decide) (fun c => absurd c (by decide)) (fun _ => ?_)
  refine lv_goto (tgt := 60) hx hb dX12_sayName_18 (by decide) ?_
  refine lv_iinc (v := 11) (lv' := [(2, .int 11), (0, .ref h0), (1, .int 41)]) hx hb dX12_sayName_60 hl (k := 0) rfl (by decide) (by decide) rfl (fun ls hl => ?_)
  refine lv_goto (tgt := 2) hx hb dX12_sayName_63 (by decide) ?_
  refine lv_iload_n hx hb dX12_sayName_2 rfl (lv_at hl 0 rfl) ?_
  refine lv_bipush (v := 35) hx hb dX12_sayName_3 (by decide) ?_
  refine lv_icmp_ge (tgt := 66) hx hb dX12_sayName_5 (by decide) (fun c => absurd c (by decide)) (fun _ => ?_)
  refine lv_aload_n hx hb dX12_sayName_8 rfl (lv_at hl 1 rfl) ?_
  refine va_get (D := (dC, dI)) (ci := 12) (v := .ref h9) (C := RX12) (T := TX12) (N := 72) hx hb hG inGX12 hown hK hP 0 rfl rfl 36 (by decide) (hG _ wd_1343) (fun _ h9 => h9) rfl dX12_sayName_9 ?_
  refine lv_iload_n hx hb dX12_sayName_12 rfl (lv_at hl 0 rfl) ?_
  refine va_iald hx hb hK hP 1 0 rfl rfl (iv_in (by decide : iv 11 11 11) (by decide) (by decide) : vp_in 11 35) dX12_sayName_13 ?_
  refine lv_val (y := 11) (show f0 (11 : Int32).toNatClampNeg = 11 from kf0_11) ?_
  refine lv_iload_n hx hb dX12_sayName_14 rfl (lv_at hl 2 rfl) ?_
  refine lv_icmp_eq (tgt := 21) hx hb dX12_sayName_15 (by decide) (fun c => absurd c (by decide)) (fun _ => ?_)
  refine lv_goto (tgt := 60) hx hb dX12_sayName_18 (by decide) ?_
  refine lv_iinc (v := 12) (lv' := [(2, .int 12), (0, .ref h0), (1, .int 41)]) hx hb dX12_sayName_60 hl (k := 0) rfl (by decide) (by decide) rfl (fun ls hl => ?_)
  refine lv_goto (tgt := 2) hx hb dX12_sayName_63 (by decide) ?_
  refine lv_iload_n hx hb dX12_sayName_2 rfl (lv_at hl 0 rfl) ?_
  refine lv_bipush (v := 35) hx hb dX12_sayName_3 (by decide) ?_
  refine lv_icmp_ge (tgt := 66) hx hb dX12_sayName_5 (by decide) (fun c => absurd c (by decide)) (fun _ => ?_)
  refine lv_aload_n hx hb dX12_sayName_8 rfl (lv_at hl 1 rfl) ?_
  refine va_get (D := (dC, dI)) (ci := 12) (v := .ref h9) (C := RX12) (T := TX12) (N := 72) hx hb hG inGX12 hown hK hP 0 rfl rfl 36 (by decide) (hG _ wd_1343) (fun _ h9 => h9) rfl dX12_sayName_9 ?_
  refine lv_iload_n hx hb dX12_sayName_12 rfl (lv_at hl 0 rfl) ?_
  refine va_iald hx hb hK hP 1 0 rfl rfl (iv_in (by decide : iv 12 12 12) (by decide) (by decide) : vp_in 12 35) dX12_sayName_13 ?_
  refine lv_val (y := 20) (show f0 (12 : Int32).toNatClampNeg = 20 from kf0_12) ?_
  refine lv_iload_n hx hb dX12_sayName_14 rfl (lv_at hl 2 rfl) ?_
  refine lv_icmp_eq (tgt := 21) hx hb dX12_sayName_15 (by decide) (fun c => absurd c (by decide)) (fun _ => ?_)
  refine lv_goto (tgt := 60) hx hb dX12_sayName_18 (by decide) ?_
  refine lv_iinc (v := 13) (lv' := [(2, .int 13), (0, .ref h0), (1, .int 41)]) hx hb dX12_sayName_60 hl (k := 0) rfl (by decide) (by decide) rfl (fun ls hl => ?_)
  refine lv_goto (tgt := 2) hx hb dX12_sayName_63 (by decide) ?_
  refine lv_iload_n hx hb dX12_sayName_2 rfl (lv_at hl 0 rfl) ?_
  refine lv_bipush (v := 35) hx hb dX12_sayName_3 (by decide) ?_
  refine lv_icmp_ge (tgt := 66) hx hb dX12_sayName_5 (by decide) (fun c => absurd c (by decide)) (fun _ => ?_)
  refine lv_aload_n hx hb dX12_sayName_8 rfl (lv_at hl 1 rfl) ?_
  refine va_get (D := (dC, dI)) (ci := 12) (v := .ref h9) (C := RX12) (T := TX12) (N := 72) hx hb hG inGX12 hown hK hP 0 rfl rfl 36 (by decide) (hG _ wd_1343) (fun _ h9 => h9) rfl dX12_sayName_9 ?_
  refine lv_iload_n hx hb dX12_sayName_12 rfl (lv_at hl 0 rfl) ?_
  refine va_iald hx hb hK hP 1 0 rfl rfl (iv_in (by decide : iv 13 13 13) (by decide) (by decide) : vp_in 13 35) dX12_sayName_13 ?_
  refine lv_val (y := 21) (show f0 (13 : Int32).toNatClampNeg = 21 from kf0_13) ?_
  refine lv_iload_n hx hb dX12_sayName_14 rfl (lv_at hl 2 rfl) ?_
  refine lv_icmp_eq (tgt := 21) hx hb dX12_sayName_15 (by decide) (fun c => absurd c (by decide)) (fun _ => ?_)
  refine lv_goto (tgt := 60) hx hb dX12_sayName_18 (by decide) ?_
  refine lv_iinc (v := 14) (lv' := [(2, .int 14), (0, .ref h0), (1, .int 41)]) hx hb dX12_sayName_60 hl (k := 0) rfl (by decide) (by decide) rfl (fun ls hl => ?_)
  refine lv_goto (tgt := 2) hx hb dX12_sayName_63 (by decide) ?_
  refine lv_iload_n hx hb dX12_sayName_2 rfl (lv_at hl 0 rfl) ?_
  refine lv_bipush (v := 35) hx hb dX12_sayName_3 (by decide) ?_
  refine lv_icmp_ge (tgt := 66) hx hb dX12_sayName_5 (by decide) (fun c => absurd c (by decide)) (fun _ => ?_)
  refine lv_aload_n hx hb dX12_sayName_8 rfl (lv_at hl 1 rfl) ?_
  refine va_get (D := (dC, dI)) (ci := 12) (v := .ref h9) (C := RX12) (T := TX12) (N := 72) hx hb hG inGX12 hown hK hP 0 rfl rfl 36 (by decide) (hG _ wd_1343) (fun _ h9 => h9) rfl dX12_sayName_9 ?_
  refine lv_iload_n hx hb dX12_sayName_12 rfl (lv_at hl 0 rfl) ?_
  refine va_iald hx hb hK hP 1 0 rfl rfl (iv_in (by decide : iv 14 14 14) (by decide) (by decide) : vp_in 14 35) dX12_sayName_13 ?_
  refine lv_val (y := 22) (show f0 (14 : Int32).toNatClampNeg = 22 from kf0_14) ?_
  refine lv_iload_n hx hb dX12_sayName_14 rfl (lv_at hl 2 rfl) ?_
  refine lv_icmp_eq (tgt := 21) hx hb dX12_sayName_15 (by decide) (fun c => absurd c (by decide)) (fun _ => ?_)
  refine lv_goto (tgt := 60) hx hb dX12_sayName_18 (by decide) ?_
  refine lv_iinc (v := 15) (lv' := [(2, .int 15), (0, .ref h0), (1, .int 41)]) hx hb dX12_sayName_60 hl (k := 0) rfl (by decide) (by decide) rfl (fun ls hl => ?_)
  refine lv_goto (tgt := 2) hx hb dX12_sayName_63 (by decide) ?_
  refine lv_iload_n hx hb dX12_sayName_2 rfl (lv_at hl 0 rfl) ?_
  refine lv_bipush (v := 35) hx hb dX12_sayName_3 (by decide) ?_
  refine lv_icmp_ge (tgt := 66) hx hb dX12_sayName_5 (by decide) (fun c => absurd c (by decide)) (fun _ => ?_)
  refine lv_aload_n hx hb dX12_sayName_8 rfl (lv_at hl 1 rfl) ?_
  refine va_get (D := (dC, dI)) (ci := 12) (v := .ref h9) (C := RX12) (T := TX12) (N := 72) hx hb hG inGX12 hown hK hP 0 rfl rfl 36 (by decide) (hG _ wd_1343) (fun _ h9 => h9) rfl dX12_sayName_9 ?_
  refine lv_iload_n hx hb dX12_sayName_12 rfl (lv_at hl 0 rfl) ?_
  refine va_iald hx hb hK hP 1 0 rfl rfl (iv_in (by decide : iv 15 15 15) (by decide) (by decide) : vp_in 15 35) dX12_sayName_13 ?_
  refine lv_val (y := 23) (show f0 (15 : Int32).toNatClampNeg = 23 from kf0_15) ?_
  refine lv_iload_n hx hb dX12_sayName_14 rfl (lv_at hl 2 rfl) ?_
  refine lv_icmp_eq (tgt := 21) hx hb dX12_sayName_15 (by decide) (fun c => absurd c (by decide)) (fun _ => ?_)
  refine lv_goto (tgt := 60) hx hb dX12_sayName_18 (by decide) ?_
  refine lv_iinc (v := 16) (lv' := [(2, .int 16), (0, .ref h0), (1, .int 41)]) hx hb dX12_sayName_60 hl (k := 0) rfl (by decide) (by decide) rfl (fun ls hl => ?_)
  refine lv_goto (tgt := 2) hx hb dX12_sayName_63 (by decide) ?_
  refine lv_iload_n hx hb dX12_sayName_2 rfl (lv_at hl 0 rfl) ?_
  refine lv_bipush (v := 35) hx hb dX12_sayName_3 (by decide) ?_
  refine lv_icmp_ge (tgt := 66) hx hb dX12_sayName_5 (by decide) (fun c => absurd c (by decide)) (fun _ => ?_)
  refine lv_aload_n hx hb dX12_sayName_8 rfl (lv_at hl 1 rfl) ?_
  refine va_get (D := (dC, dI)) (ci := 12) (v := .ref h9) (C := RX12) (T := TX12) (N := 72) hx hb hG inGX12 hown hK hP 0 rfl rfl 36 (by decide) (hG _ wd_1343) (fun _ h9 => h9) rfl dX12_sayName_9 ?_
  refine lv_iload_n hx hb dX12_sayName_12 rfl (lv_at hl 0 rfl) ?_
  refine va_iald hx hb hK hP 1 0 rfl rfl (iv_in (by decide : iv 16 16 16) (by decide) (by decide) : vp_in 16 35) dX12_sayName_13 ?_
  refine lv_val (y := 24) (show f0 (16 : Int32).toNatClampNeg = 24 from kf0_16) ?_
  refine lv_iload_n hx hb dX12_sayName_14 rfl (lv_at hl 2 rfl) ?_
  refine lv_icmp_eq (tgt := 21) hx hb dX12_sayName_15 (by decide) (fun c => absurd c (by decide)) (fun _ => ?_)
  refine lv_goto (tgt := 60) hx hb dX12_sayName_18 (by decide) ?_
  refine lv_iinc (v := 17) (lv' := [(2, .int 17), (0, .ref h0), (1, .int 41)]) hx hb dX12_sayName_60 hl (k := 0) rfl (by decide) (by decide) rfl (fun ls hl => ?_)
  refine lv_goto (tgt := 2) hx hb dX12_sayName_63 (by decide) ?_
  refine lv_iload_n hx hb dX12_sayName_2 rfl (lv_at hl 0 rfl) ?_
  refine lv_bipush (v := 35) hx hb dX12_sayName_3 (by decide) ?_
  refine lv_icmp_ge (tgt := 66) hx hb dX12_sayName_5 (by decide) (fun c => absurd c (by decide)) (fun _ => ?_)
  refine lv_aload_n hx hb dX12_sayName_8 rfl (lv_at hl 1 rfl) ?_
  refine va_get (D := (dC, dI)) (ci := 12) (v := .ref h9) (C := RX12) (T := TX12) (N := 72) hx hb hG inGX12 hown hK hP 0 rfl rfl 36 (by decide) (hG _ wd_1343) (fun _ h9 => h9) rfl dX12_sayName_9 ?_
  refine lv_iload_n hx hb dX12_sayName_12 rfl (lv_at hl 0 rfl) ?_
  refine va_iald hx hb hK hP 1 0 rfl rfl (iv_in (by decide : iv 17 17 17) (by decide) (by decide) : vp_in 17 35) dX12_sayName_13 ?_
  refine lv_val (y := 25) (show f0 (17 : Int32).toNatClampNeg = 25 from kf0_17) ?_
  refine lv_iload_n hx hb dX12_sayName_14 rfl (lv_at hl 2 rfl) ?_
  refine lv_icmp_eq (tgt := 21) hx hb dX12_sayName_15 (by decide) (fun c => absurd c (by decide)) (fun _ => ?_)
  refine lv_goto (tgt := 60) hx hb dX12_sayName_18 (by decide) ?_
  refine lv_iinc (v := 18) (lv' := [(2, .int 18), (0, .ref h0), (1, .int 41)]) hx hb dX12_sayName_60 hl (k := 0) rfl (by decide) (by decide) rfl (fun ls hl => ?_)
  refine lv_goto (tgt := 2) hx hb dX12_sayName_63 (by decide) ?_
  refine lv_iload_n hx hb dX12_sayName_2 rfl (lv_at hl 0 rfl) ?_
  refine lv_bipush (v := 35) hx hb dX12_sayName_3 (by decide) ?_
  refine lv_icmp_ge (tgt := 66) hx hb dX12_sayName_5 (by decide) (fun c => absurd c (by decide)) (fun _ => ?_)
  refine lv_aload_n hx hb dX12_sayName_8 rfl (lv_at hl 1 rfl) ?_
  refine va_get (D := (dC, dI)) (ci := 12) (v := .ref h9) (C := RX12) (T := TX12) (N := 72) hx hb hG inGX12 hown hK hP 0 rfl rfl 36 (by decide) (hG _ wd_1343) (fun _ h9 => h9) rfl dX12_sayName_9 ?_
  refine lv_iload_n hx hb dX12_sayName_12 rfl (lv_at hl 0 rfl) ?_
  refine va_iald hx hb hK hP 1 0 rfl rfl (iv_in (by decide : iv 18 18 18) (by decide) (by decide) : vp_in 18 35) dX12_sayName_13 ?_
  refine lv_val (y := 30) (show f0 (18 : Int32).toNatClampNeg = 30 from kf0_18) ?_
  refine lv_iload_n hx hb dX12_sayName_14 rfl (lv_at hl 2 rfl) ?_
  refine lv_icmp_eq (tgt := 21) hx hb dX12_sayName_15 (by decide) (fun c => absurd c (by decide)) (fun _ => ?_)
  refine lv_goto (tgt := 60) hx hb dX12_sayName_18 (by decide) ?_
  refine lv_iinc (v := 19) (lv' := [(2, .int 19), (0, .ref h0), (1, .int 41)]) hx hb dX12_sayName_60 hl (k := 0) rfl (by decide) (by decide) rfl (fun ls hl => ?_)
  refine lv_goto (tgt := 2) hx hb dX12_sayName_63 (by decide) ?_
  refine lv_iload_n hx hb dX12_sayName_2 rfl (lv_at hl 0 rfl) ?_
  refine lv_bipush (v := 35) hx hb dX12_sayName_3 (by decide) ?_
  refine lv_icmp_ge (tgt := 66) hx hb dX12_sayName_5 (by decide) (fun c => absurd c (by decide)) (fun _ => ?_)
  refine lv_aload_n hx hb dX12_sayName_8 rfl (lv_at hl 1 rfl) ?_
  refine va_get (D := (dC, dI)) (ci := 12) (v := .ref h9) (C := RX12) (T := TX12) (N := 72) hx hb hG inGX12 hown hK hP 0 rfl rfl 36 (by decide) (hG _ wd_1343) (fun _ h9 => h9) rfl dX12_sayName_9 ?_
  refine lv_iload_n hx hb dX12_sayName_12 rfl (lv_at hl 0 rfl) ?_
  refine va_iald hx hb hK hP 1 0 rfl rfl (iv_in (by decide : iv 19 19 19) (by decide) (by decide) : vp_in 19 35) dX12_sayName_13 ?_
  refine lv_val (y := 31) (show f0 (19 : Int32).toNatClampNeg = 31 from kf0_19) ?_
  refine lv_iload_n hx hb dX12_sayName_14 rfl (lv_at hl 2 rfl) ?_
  refine lv_icmp_eq (tgt := 21) hx hb dX12_sayName_15 (by decide) (fun c => absurd c (by decide)) (fun _ => ?_)
  refine lv_goto (tgt := 60) hx hb dX12_sayName_18 (by decide) ?_
  refine lv_iinc (v := 20) (lv' := [(2, .int 20), (0, .ref h0), (1, .int 41)]) hx hb dX12_sayName_60 hl (k := 0) rfl (by decide) (by decide) rfl (fun ls hl => ?_)
  refine lv_goto (tgt := 2) hx hb dX12_sayName_63 (by decide) ?_
  refine lv_iload_n hx hb dX12_sayName_2 rfl (lv_at hl 0 rfl) ?_
  refine lv_bipush (v := 35) hx hb dX12_sayName_3 (by decide) ?_
  refine lv_icmp_ge (tgt := 66) hx hb dX12_sayName_5 (by decide) (fun c => absurd c (by decide)) (fun _ => ?_)
  refine lv_aload_n hx hb dX12_sayName_8 rfl (lv_at hl 1 rfl) ?_
  refine va_get (D := (dC, dI)) (ci := 12) (v := .ref h9) (C := RX12) (T := TX12) (N := 72) hx hb hG inGX12 hown hK hP 0 rfl rfl 36 (by decide) (hG _ wd_1343) (fun _ h9 => h9) rfl dX12_sayName_9 ?_
  refine lv_iload_n hx hb dX12_sayName_12 rfl (lv_at hl 0 rfl) ?_
  refine va_iald hx hb hK hP 1 0 rfl rfl (iv_in (by decide : iv 20 20 20) (by decide) (by decide) : vp_in 20 35) dX12_sayName_13 ?_
  refine lv_val (y := 32) (show f0 (20 : Int32).toNatClampNeg = 32 from kf0_20) ?_
  refine lv_iload_n hx hb dX12_sayName_14 rfl (lv_at hl 2 rfl) ?_
  refine lv_icmp_eq (tgt := 21) hx hb dX12_sayName_15 (by decide) (fun c => absurd c (by decide)) (fun _ => ?_)
  refine lv_goto (tgt := 60) hx hb dX12_sayName_18 (by decide) ?_
  refine lv_iinc (v := 21) (lv' := [(2, .int 21), (0, .ref h0), (1, .int 41)]) hx hb dX12_sayName_60 hl (k := 0) rfl (by decide) (by decide) rfl (fun ls hl => ?_)
  refine lv_goto (tgt := 2) hx hb dX12_sayName_63 (by decide) ?_
  refine lv_iload_n hx hb dX12_sayName_2 rfl (lv_at hl 0 rfl) ?_
  refine lv_bipush (v := 35) hx hb dX12_sayName_3 (by decide) ?_
  refine lv_icmp_ge (tgt := 66) hx hb dX12_sayName_5 (by decide) (fun c => absurd c (by decide)) (fun _ => ?_)
  refine lv_aload_n hx hb dX12_sayName_8 rfl (lv_at hl 1 rfl) ?_
  refine va_get (D := (dC, dI)) (ci := 12) (v := .ref h9) (C := RX12) (T := TX12) (N := 72) hx hb hG inGX12 hown hK hP 0 rfl rfl 36 (by decide) (hG _ wd_1343) (fun _ h9 => h9) rfl dX12_sayName_9 ?_
  refine lv_iload_n hx hb dX12_sayName_12 rfl (lv_at hl 0 rfl) ?_
  refine va_iald hx hb hK hP 1 0 rfl rfl (iv_in (by decide : iv 21 21 21) (by decide) (by decide) : vp_in 21 35) dX12_sayName_13 ?_
  refine lv_val (y := 33) (show f0 (21 : Int32).toNatClampNeg = 33 from kf0_21) ?_
  refine lv_iload_n hx hb dX12_sayName_14 rfl (lv_at hl 2 rfl) ?_
  refine lv_icmp_eq (tgt := 21) hx hb dX12_sayName_15 (by decide) (fun c => absurd c (by decide)) (fun _ => ?_)
  refine lv_goto (tgt := 60) hx hb dX12_sayName_18 (by decide) ?_
  refine lv_iinc (v := 22) (lv' := [(2, .int 22), (0, .ref h0), (1, .int 41)]) hx hb dX12_sayName_60 hl (k := 0) rfl (by decide) (by decide) rfl (fun ls hl => ?_)
  refine lv_goto (tgt := 2) hx hb dX12_sayName_63 (by decide) ?_
  refine lv_iload_n hx hb dX12_sayName_2 rfl (lv_at hl 0 rfl) ?_
  refine lv_bipush (v := 35) hx hb dX12_sayName_3 (by decide) ?_
  refine lv_icmp_ge (tgt := 66) hx hb dX12_sayName_5 (by decide) (fun c => absurd c (by decide)) (fun _ => ?_)
  refine lv_aload_n hx hb dX12_sayName_8 rfl (lv_at hl 1 rfl) ?_
  refine va_get (D := (dC, dI)) (ci := 12) (v := .ref h9) (C := RX12) (T := TX12) (N := 72) hx hb hG inGX12 hown hK hP 0 rfl rfl 36 (by decide) (hG _ wd_1343) (fun _ h9 => h9) rfl dX12_sayName_9 ?_
  refine lv_iload_n hx hb dX12_sayName_12 rfl (lv_at hl 0 rfl) ?_
  refine va_iald hx hb hK hP 1 0 rfl rfl (iv_in (by decide : iv 22 22 22) (by decide) (by decide) : vp_in 22 35) dX12_sayName_13 ?_
  refine lv_val (y := 34) (show f0 (22 : Int32).toNatClampNeg = 34 from kf0_22) ?_
  refine lv_iload_n hx hb dX12_sayName_14 rfl (lv_at hl 2 rfl) ?_
  refine lv_icmp_eq (tgt := 21) hx hb dX12_sayName_15 (by decide) (fun c => absurd c (by decide)) (fun _ => ?_)
  refine lv_goto (tgt := 60) hx hb dX12_sayName_18 (by decide) ?_
  refine lv_iinc (v := 23) (lv' := [(2, .int 23), (0, .ref h0), (1, .int 41)]) hx hb dX12_sayName_60 hl (k := 0) rfl (by decide) (by decide) rfl (fun ls hl => ?_)
  refine lv_goto (tgt := 2) hx hb dX12_sayName_63 (by decide) ?_
  refine lv_iload_n hx hb dX12_sayName_2 rfl (lv_at hl 0 rfl) ?_
  refine lv_bipush (v := 35) hx hb dX12_sayName_3 (by decide) ?_
  refine lv_icmp_ge (tgt := 66) hx hb dX12_sayName_5 (by decide) (fun c => absurd c (by decide)) (fun _ => ?_)
  refine lv_aload_n hx hb dX12_sayName_8 rfl (lv_at hl 1 rfl) ?_
  refine va_get (D := (dC, dI)) (ci := 12) (v := .ref h9) (C := RX12) (T := TX12) (N := 72) hx hb hG inGX12 hown hK hP 0 rfl rfl 36 (by decide) (hG _ wd_1343) (fun _ h9 => h9) rfl dX12_sayName_9 ?_
  refine lv_iload_n hx hb dX12_sayName_12 rfl (lv_at hl 0 rfl) ?_
  refine va_iald hx hb hK hP 1 0 rfl rfl (iv_in (by decide : iv 23 23 23) (by decide) (by decide) : vp_in 23 35) dX12_sayName_13 ?_
  refine lv_val (y := 35) (show f0 (23 : Int32).toNatClampNeg = 35 from kf0_23) ?_
  refine lv_iload_n hx hb dX12_sayName_14 rfl (lv_at hl 2 rfl) ?_
  refine lv_icmp_eq (tgt := 21) hx hb dX12_sayName_15 (by decide) (fun c => absurd c (by decide)) (fun _ => ?_)
  refine lv_goto (tgt := 60) hx hb dX12_sayName_18 (by decide) ?_
  refine lv_iinc (v := 24) (lv' := [(2, .int 24), (0, .ref h0), (1, .int 41)]) hx hb dX12_sayName_60 hl (k := 0) rfl (by decide) (by decide) rfl (fun ls hl => ?_)
  refine lv_goto (tgt := 2) hx hb dX12_sayName_63 (by decide) ?_
  refine lv_iload_n hx hb dX12_sayName_2 rfl (lv_at hl 0 rfl) ?_
  refine lv_bipush (v := 35) hx hb dX12_sayName_3 (by decide) ?_
  refine lv_icmp_ge (tgt := 66) hx hb dX12_sayName_5 (by decide) (fun c => absurd c (by decide)) (fun _ => ?_)
  refine lv_aload_n hx hb dX12_sayName_8 rfl (lv_at hl 1 rfl) ?_
  refine va_get (D := (dC, dI)) (ci := 12) (v := .ref h9) (C := RX12) (T := TX12) (N := 72) hx hb hG inGX12 hown hK hP 0 rfl rfl 36 (by decide) (hG _ wd_1343) (fun _ h9 => h9) rfl dX12_sayName_9 ?_
  refine lv_iload_n hx hb dX12_sayName_12 rfl (lv_at hl 0 rfl) ?_
  refine va_iald hx hb hK hP 1 0 rfl rfl (iv_in (by decide : iv 24 24 24) (by decide) (by decide) : vp_in 24 35) dX12_sayName_13 ?_
  refine lv_val (y := 36) (show f0 (24 : Int32).toNatClampNeg = 36 from kf0_24) ?_
  refine lv_iload_n hx hb dX12_sayName_14 rfl (lv_at hl 2 rfl) ?_
  refine lv_icmp_eq (tgt := 21) hx hb dX12_sayName_15 (by decide) (fun c => absurd c (by decide)) (fun _ => ?_)
  refine lv_goto (tgt := 60) hx hb dX12_sayName_18 (by decide) ?_
  refine lv_iinc (v := 25) (lv' := [(2, .int 25), (0, .ref h0), (1, .int 41)]) hx hb dX12_sayName_60 hl (k := 0) rfl (by decide) (by decide) rfl (fun ls hl => ?_)
  refine lv_goto (tgt := 2) hx hb dX12_sayName_63 (by decide) ?_
  refine lv_iload_n hx hb dX12_sayName_2 rfl (lv_at hl 0 rfl) ?_
  refine lv_bipush (v := 35) hx hb dX12_sayName_3 (by decide) ?_
  refine lv_icmp_ge (tgt := 66) hx hb dX12_sayName_5 (by decide) (fun c => absurd c (by decide)) (fun _ => ?_)
  refine lv_aload_n hx hb dX12_sayName_8 rfl (lv_at hl 1 rfl) ?_
  refine va_get (D := (dC, dI)) (ci := 12) (v := .ref h9) (C := RX12) (T := TX12) (N := 72) hx hb hG inGX12 hown hK hP 0 rfl rfl 36 (by decide) (hG _ wd_1343) (fun _ h9 => h9) rfl dX12_sayName_9 ?_
  refine lv_iload_n hx hb dX12_sayName_12 rfl (lv_at hl 0 rfl) ?_
  refine va_iald hx hb hK hP 1 0 rfl rfl (iv_in (by decide : iv 25 25 25) (by decide) (by decide) : vp_in 25 35) dX12_sayName_13 ?_
  refine lv_val (y := 37) (show f0 (25 : Int32).toNatClampNeg = 37 from kf0_25) ?_
  refine lv_iload_n hx hb dX12_sayName_14 rfl (lv_at hl 2 rfl) ?_
  refine lv_icmp_eq (tgt := 21) hx hb dX12_sayName_15 (by decide) (fun c => absurd c (by decide)) (fun _ => ?_)
  refine lv_goto (tgt := 60) hx hb dX12_sayName_18 (by decide) ?_
  refine lv_iinc (v := 26) (lv' := [(2, .int 26), (0, .ref h0), (1, .int 41)]) hx hb dX12_sayName_60 hl (k := 0) rfl (by decide) (by decide) rfl (fun ls hl => ?_)
  refine lv_goto (tgt := 2) hx hb dX12_sayName_63 (by decide) ?_
  refine lv_iload_n hx hb dX12_sayName_2 rfl (lv_at hl 0 rfl) ?_
  refine lv_bipush (v := 35) hx hb dX12_sayName_3 (by decide) ?_
  refine lv_icmp_ge (tgt := 66) hx hb dX12_sayName_5 (by decide) (fun c => absurd c (by decide)) (fun _ => ?_)
  refine lv_aload_n hx hb dX12_sayName_8 rfl (lv_at hl 1 rfl) ?_
  refine va_get (D := (dC, dI)) (ci := 12) (v := .ref h9) (C := RX12) (T := TX12) (N := 72) hx hb hG inGX12 hown hK hP 0 rfl rfl 36 (by decide) (hG _ wd_1343) (fun _ h9 => h9) rfl dX12_sayName_9 ?_
  refine lv_iload_n hx hb dX12_sayName_12 rfl (lv_at hl 0 rfl) ?_
  refine va_iald hx hb hK hP 1 0 rfl rfl (iv_in (by decide : iv 26 26 26) (by decide) (by decide) : vp_in 26 35) dX12_sayName_13 ?_
  refine lv_val (y := 40) (show f0 (26 : Int32).toNatClampNeg = 40 from kf0_26) ?_
  refine lv_iload_n hx hb dX12_sayName_14 rfl (lv_at hl 2 rfl) ?_
  refine lv_icmp_eq (tgt := 21) hx hb dX12_sayName_15 (by decide) (fun c => absurd c (by decide)) (fun _ => ?_)
  refine lv_goto (tgt := 60) hx hb dX12_sayName_18 (by decide) ?_
  refine lv_iinc (v := 27) (lv' := [(2, .int 27), (0, .ref h0), (1, .int 41)]) hx hb dX12_sayName_60 hl (k := 0) rfl (by decide) (by decide) rfl (fun ls hl => ?_)
  refine lv_goto (tgt := 2) hx hb dX12_sayName_63 (by decide) ?_
  refine lv_iload_n hx hb dX12_sayName_2 rfl (lv_at hl 0 rfl) ?_
  refine lv_bipush (v := 35) hx hb dX12_sayName_3 (by decide) ?_
  refine lv_icmp_ge (tgt := 66) hx hb dX12_sayName_5 (by decide) (fun c => absurd c (by decide)) (fun _ => ?_)
  refine lv_aload_n hx hb dX12_sayName_8 rfl (lv_at hl 1 rfl) ?_
  refine va_get (D := (dC, dI)) (ci := 12) (v := .ref h9) (C := RX12) (T := TX12) (N := 72) hx hb hG inGX12 hown hK hP 0 rfl rfl 36 (by decide) (hG _ wd_1343) (fun _ h9 => h9) rfl dX12_sayName_9 ?_
  refine lv_iload_n hx hb dX12_sayName_12 rfl (lv_at hl 0 rfl) ?_
  refine va_iald hx hb hK hP 1 0 rfl rfl (iv_in (by decide : iv 27 27 27) (by decide) (by decide) : vp_in 27 35) dX12_sayName_13 ?_
  refine lv_val (y := 41) (show f0 (27 : Int32).toNatClampNeg = 41 from kf0_27) ?_
  refine lv_iload_n hx hb dX12_sayName_14 rfl (lv_at hl 2 rfl) ?_
  refine lv_icmp_eq (tgt := 21) hx hb dX12_sayName_15 (by decide) (fun _ => ?_) (fun c => absurd (by decide) c)
  refine lv_bipush (v := 56) hx hb dX12_sayName_21 (by decide) ?_
  refine lv_istore_n (lv' := [(3, .int 56), (2, .int 27), (0, .ref h0), (1, .int 41)]) hx hb dX12_sayName_23 rfl hl (by decide) rfl (fun ls hl => ?_)
  refine lv_iload_n hx hb dX12_sayName_24 rfl (lv_at hl 0 rfl) ?_
  refine lv_if_lt (tgt := 60) hx hb dX12_sayName_25 (by decide) (fun c => absurd c (by decide)) (fun _ => ?_)
  refine lv_aload_n hx hb dX12_sayName_28 rfl (lv_at hl 2 rfl) ?_
  refine va_get (D := (dC, dI)) (ci := 12) (v := .ref h8) (C := RX12) (T := TX12) (N := 72) hx hb hG inGX12 hown hK hP 0 rfl rfl 35 (by decide) (hG _ wd_1342) (fun _ h9 => h9) rfl dX12_sayName_29 ?_
  refine lv_iload_n hx hb dX12_sayName_32 rfl (lv_at hl 1 rfl) ?_
  refine va_lald hx hb hK hP 2 1 rfl rfl (iv_in (by decide : iv 27 27 27) (by decide) (by decide) : vp_in 27 35) dX12_sayName_33 ?_
  refine lv_valL (y := 2003792484) (show g0 (27 : Int32).toNatClampNeg = 2003792484 from kg0_27) ?_
  refine lv_iload_n hx hb dX12_sayName_34 rfl (lv_at hl 0 rfl) ?_
  refine lv_lshr (v := _) hx hb dX12_sayName_35 rfl ?_
  refine lv_valL (y := 0) (by decide +kernel) ?_
  refine lv_ldc2 hx hb hown (hG _ wd_1754) dX12_sayName_36 ?_
  refine lv_land hx hb dX12_sayName_39 ?_
  refine lv_valL (y := 0) (by decide +kernel) ?_
  refine lv_l2i (v := _) hx hb dX12_sayName_40 rfl ?_
  refine lv_val (y := 0) (by decide +kernel) ?_
  refine lv_istore (lv' := [(4, .int 0), (3, .int 56), (2, .int 27), (0, .ref h0), (1, .int 41)]) hx hb dX12_sayName_41 hl (by decide) rfl (fun ls hl => ?_)
  refine lv_iload hx hb dX12_sayName_43 (lv_at hl 0 rfl) ?_
  refine lv_if_le (tgt := 54) hx hb dX12_sayName_45 (by decide) (fun _ => ?_) (fun c => absurd (by decide) c)
  refine lv_iinc (v := 48) (lv' := [(3, .int 48), (4, .int 0), (2, .int 27), (0, .ref h0), (1, .int 41)]) hx hb dX12_sayName_54 hl (k := 1) rfl (by decide) (by decide) rfl (fun ls hl => ?_)
  refine lv_goto (tgt := 24) hx hb dX12_sayName_57 (by decide) ?_
  refine lv_iload_n hx hb dX12_sayName_24 rfl (lv_at hl 0 rfl) ?_
  refine lv_if_lt (tgt := 60) hx hb dX12_sayName_25 (by decide) (fun c => absurd c (by decide)) (fun _ => ?_)
  refine lv_aload_n hx hb dX12_sayName_28 rfl (lv_at hl 3 rfl) ?_
  refine va_get (D := (dC, dI)) (ci := 12) (v := .ref h8) (C := RX12) (T := TX12) (N := 72) hx hb hG inGX12 hown hK hP 0 rfl rfl 35 (by decide) (hG _ wd_1342) (fun _ h9 => h9) rfl dX12_sayName_29 ?_
  refine lv_iload_n hx hb dX12_sayName_32 rfl (lv_at hl 2 rfl) ?_
  refine va_lald hx hb hK hP 2 1 rfl rfl (iv_in (by decide : iv 27 27 27) (by decide) (by decide) : vp_in 27 35) dX12_sayName_33 ?_
  refine lv_valL (y := 2003792484) (show g0 (27 : Int32).toNatClampNeg = 2003792484 from kg0_27) ?_
  refine lv_iload_n hx hb dX12_sayName_34 rfl (lv_at hl 0 rfl) ?_
  refine lv_lshr (v := _) hx hb dX12_sayName_35 rfl ?_
  refine lv_valL (y := 0) (by decide +kernel) ?_
  refine lv_ldc2 hx hb hown (hG _ wd_1754) dX12_sayName_36 ?_
  refine lv_land hx hb dX12_sayName_39 ?_
  refine lv_valL (y := 0) (by decide +kernel) ?_
  refine lv_l2i (v := _) hx hb dX12_sayName_40 rfl ?_
  refine lv_val (y := 0) (by decide +kernel) ?_
  refine lv_istore (lv' := [(4, .int 0), (3, .int 48), (2, .int 27), (0, .ref h0), (1, .int 41)]) hx hb dX12_sayName_41 hl (by decide) rfl (fun ls hl => ?_)
  refine lv_iload hx hb dX12_sayName_43 (lv_at hl 0 rfl) ?_
  refine lv_if_le (tgt := 54) hx hb dX12_sayName_45 (by decide) (fun _ => ?_) (fun c => absurd (by decide) c)
  refine lv_iinc (v := 40) (lv' := [(3, .int 40), (4, .int 0), (2, .int 27), (0, .ref h0), (1, .int 41)]) hx hb dX12_sayName_54 hl (k := 1) rfl (by decide) (by decide) rfl (fun ls hl => ?_)
  refine lv_goto (tgt := 24) hx hb dX12_sayName_57 (by decide) ?_
  refine lv_iload_n hx hb dX12_sayName_24 rfl (lv_at hl 0 rfl) ?_
  refine lv_if_lt (tgt := 60) hx hb dX12_sayName_25 (by decide) (fun c => absurd c (by decide)) (fun _ => ?_)
  refine lv_aload_n hx hb dX12_sayName_28 rfl (lv_at hl 3 rfl) ?_
  refine va_get (D := (dC, dI)) (ci := 12) (v := .ref h8) (C := RX12) (T := TX12) (N := 72) hx hb hG inGX12 hown hK hP 0 rfl rfl 35 (by decide) (hG _ wd_1342) (fun _ h9 => h9) rfl dX12_sayName_29 ?_
  refine lv_iload_n hx hb dX12_sayName_32 rfl (lv_at hl 2 rfl) ?_
  refine va_lald hx hb hK hP 2 1 rfl rfl (iv_in (by decide : iv 27 27 27) (by decide) (by decide) : vp_in 27 35) dX12_sayName_33 ?_
  refine lv_valL (y := 2003792484) (show g0 (27 : Int32).toNatClampNeg = 2003792484 from kg0_27) ?_
  refine lv_iload_n hx hb dX12_sayName_34 rfl (lv_at hl 0 rfl) ?_
  refine lv_lshr (v := _) hx hb dX12_sayName_35 rfl ?_
  refine lv_valL (y := 0) (by decide +kernel) ?_
  refine lv_ldc2 hx hb hown (hG _ wd_1754) dX12_sayName_36 ?_
  refine lv_land hx hb dX12_sayName_39 ?_
  refine lv_valL (y := 0) (by decide +kernel) ?_
  refine lv_l2i (v := _) hx hb dX12_sayName_40 rfl ?_
  refine lv_val (y := 0) (by decide +kernel) ?_
  refine lv_istore (lv' := [(4, .int 0), (3, .int 40), (2, .int 27), (0, .ref h0), (1, .int 41)]) hx hb dX12_sayName_41 hl (by decide) rfl (fun ls hl => ?_)
  refine lv_iload hx hb dX12_sayName_43 (lv_at hl 0 rfl) ?_
  refine lv_if_le (tgt := 54) hx hb dX12_sayName_45 (by decide) (fun _ => ?_) (fun c => absurd (by decide) c)
  refine lv_iinc (v := 32) (lv' := [(3, .int 32), (4, .int 0), (2, .int 27), (0, .ref h0), (1, .int 41)]) hx hb dX12_sayName_54 hl (k := 1) rfl (by decide) (by decide) rfl (fun ls hl => ?_)
  refine lv_goto (tgt := 24) hx hb dX12_sayName_57 (by decide) ?_
  refine lv_iload_n hx hb dX12_sayName_24 rfl (lv_at hl 0 rfl) ?_
  refine lv_if_lt (tgt := 60) hx hb dX12_sayName_25 (by decide) (fun c => absurd c (by decide)) (fun _ => ?_)
  refine lv_aload_n hx hb dX12_sayName_28 rfl (lv_at hl 3 rfl) ?_
  refine va_get (D := (dC, dI)) (ci := 12) (v := .ref h8) (C := RX12) (T := TX12) (N := 72) hx hb hG inGX12 hown hK hP 0 rfl rfl 35 (by decide) (hG _ wd_1342) (fun _ h9 => h9) rfl dX12_sayName_29 ?_
  refine lv_iload_n hx hb dX12_sayName_32 rfl (lv_at hl 2 rfl) ?_
  refine va_lald hx hb hK hP 2 1 rfl rfl (iv_in (by decide : iv 27 27 27) (by decide) (by decide) : vp_in 27 35) dX12_sayName_33 ?_
  refine lv_valL (y := 2003792484) (show g0 (27 : Int32).toNatClampNeg = 2003792484 from kg0_27) ?_
  refine lv_iload_n hx hb dX12_sayName_34 rfl (lv_at hl 0 rfl) ?_
  refine lv_lshr (v := _) hx hb dX12_sayName_35 rfl ?_
  refine lv_valL (y := 0) (by decide +kernel) ?_
  refine lv_ldc2 hx hb hown (hG _ wd_1754) dX12_sayName_36 ?_
  refine lv_land hx hb dX12_sayName_39 ?_
  refine lv_valL (y := 0) (by decide +kernel) ?_
  refine lv_l2i (v := _) hx hb dX12_sayName_40 rfl ?_
  refine lv_val (y := 0) (by decide +kernel) ?_
  refine lv_istore (lv' := [(4, .int 0), (3, .int 32), (2, .int 27), (0, .ref h0), (1, .int 41)]) hx hb dX12_sayName_41 hl (by decide) rfl (fun ls hl => ?_)
  refine lv_iload hx hb dX12_sayName_43 (lv_at hl 0 rfl) ?_
  refine lv_if_le (tgt := 54) hx hb dX12_sayName_45 (by decide) (fun _ => ?_) (fun c => absurd (by decide) c)
  refine lv_iinc (v := 24) (lv' := [(3, .int 24), (4, .int 0), (2, .int 27), (0, .ref h0), (1, .int 41)]) hx hb dX12_sayName_54 hl (k := 1) rfl (by decide) (by decide) rfl (fun ls hl => ?_)
  refine lv_goto (tgt := 24) hx hb dX12_sayName_57 (by decide) ?_
  refine lv_iload_n hx hb dX12_sayName_24 rfl (lv_at hl 0 rfl) ?_
  refine lv_if_lt (tgt := 60) hx hb dX12_sayName_25 (by decide) (fun c => absurd c (by decide)) (fun _ => ?_)
  refine lv_aload_n hx hb dX12_sayName_28 rfl (lv_at hl 3 rfl) ?_
  refine va_get (D := (dC, dI)) (ci := 12) (v := .ref h8) (C := RX12) (T := TX12) (N := 72) hx hb hG inGX12 hown hK hP 0 rfl rfl 35 (by decide) (hG _ wd_1342) (fun _ h9 => h9) rfl dX12_sayName_29 ?_
  refine lv_iload_n hx hb dX12_sayName_32 rfl (lv_at hl 2 rfl) ?_
  refine va_lald hx hb hK hP 2 1 rfl rfl (iv_in (by decide : iv 27 27 27) (by decide) (by decide) : vp_in 27 35) dX12_sayName_33 ?_
  refine lv_valL (y := 2003792484) (show g0 (27 : Int32).toNatClampNeg = 2003792484 from kg0_27) ?_
  refine lv_iload_n hx hb dX12_sayName_34 rfl (lv_at hl 0 rfl) ?_
  refine lv_lshr (v := _) hx hb dX12_sayName_35 rfl ?_
  refine lv_valL (y := 119) (by decide +kernel) ?_
  refine lv_ldc2 hx hb hown (hG _ wd_1754) dX12_sayName_36 ?_
  refine lv_land hx hb dX12_sayName_39 ?_
  refine lv_valL (y := 119) (by decide +kernel) ?_
  refine lv_l2i (v := _) hx hb dX12_sayName_40 rfl ?_
  refine lv_val (y := 119) (by decide +kernel) ?_
  refine lv_istore (lv' := [(4, .int 119), (3, .int 24), (2, .int 27), (0, .ref h0), (1, .int 41)]) hx hb dX12_sayName_41 hl (by decide) rfl (fun ls hl => ?_)
  refine lv_iload hx hb dX12_sayName_43 (lv_at hl 0 rfl) ?_
  refine lv_if_le (tgt := 54) hx hb dX12_sayName_45 (by decide) (fun c => absurd c (by decide)) (fun _ => ?_)
  refine lv_aload_n hx hb dX12_sayName_48 rfl (lv_at hl 3 rfl) ?_
  refine lv_iload hx hb dX12_sayName_49 (lv_at hl 0 rfl) ?_
  have hPc := hP.sub (ws' := [(h0, .inr (12, [.int 0, .ref h1, .ref h2, .int 0, .int 0, .int 0, .int 0, .int 0, .int 0, .int 0, .int 0, .int 0, .int 0, .int 0, .int 0, .int 0, .int 0, .int 0, .ref h3, .ref h4, .ref h5, .ref h6, .int 0, .int 0, .int 0, .int 0, .int 0, .int 0, .int 0, .int 0, .ref h7, .int 0, .int 0, .int 0, .int 0, .ref h8, .ref h9, .int 0, .int 0, .long 0, .int 0, .int 0, .ref h10, .ref h11, .ref h12, .ref h13, .ref h14, .int 0, .int 0, .int 0, .int 0, .int 0, .int 0, .int 0, .int 0, .int 0, .ref h15, .ref h16, .int 0, .int 0, .int 0, .int 0, .int 0, .int 0, .int 0, .int 0, .ref h17, .int 0, .int 0, .int x0, .int x1, .int 0])), (h17, .inl (y2, 100, .inl (fun _ => 0)))]) [0, 3] rfl
  have hDc := hD.sub (ws' := [(h0, .inr (12, [.int 0, .ref h1, .ref h2, .int 0, .int 0, .int 0, .int 0, .int 0, .int 0, .int 0, .int 0, .int 0, .int 0, .int 0, .int 0, .int 0, .int 0, .int 0, .ref h3, .ref h4, .ref h5, .ref h6, .int 0, .int 0, .int 0, .int 0, .int 0, .int 0, .int 0, .int 0, .ref h7, .int 0, .int 0, .int 0, .int 0, .ref h8, .ref h9, .int 0, .int 0, .long 0, .int 0, .int 0, .ref h10, .ref h11, .ref h12, .ref h13, .ref h14, .int 0, .int 0, .int 0, .int 0, .int 0, .int 0, .int 0, .int 0, .int 0, .ref h15, .ref h16, .int 0, .int 0, .int 0, .int 0, .int 0, .int 0, .int 0, .int 0, .ref h17, .int 0, .int 0, .int x0, .int x1, .int 0])), (h17, .inl (y2, 100, .inl (fun _ => 0)))]) [0, 3] (by decide) rfl
  have hKc := hK.sub (tys' := [(y2, .byte)]) [2] rfl
  have hFc := va_free (wc := [(h0, .inr (12, [.int 0, .ref h1, .ref h2, .int 0, .int 0, .int 0, .int 0, .int 0, .int 0, .int 0, .int 0, .int 0, .int 0, .int 0, .int 0, .int 0, .int 0, .int 0, .ref h3, .ref h4, .ref h5, .ref h6, .int 0, .int 0, .int 0, .int 0, .int 0, .int 0, .int 0, .int 0, .ref h7, .int 0, .int 0, .int 0, .int 0, .ref h8, .ref h9, .int 0, .int 0, .long 0, .int 0, .int 0, .ref h10, .ref h11, .ref h12, .ref h13, .ref h14, .int 0, .int 0, .int 0, .int 0, .int 0, .int 0, .int 0, .int 0, .int 0, .ref h15, .ref h16, .int 0, .int 0, .int 0, .int 0, .int 0, .int 0, .int 0, .int 0, .ref h17, .int 0, .int 0, .int x0, .int x1, .int 0])), (h17, .inl (y2, 100, .inl (fun _ => 0)))]) hD hS hA [0, 3] rfl
  refine va_callv (va_runV (As := [.int 119]) (rest := []) ⟨hx, hb, hml, hown, hG⟩ (cX12_say_1 l dC dI h0 h1 h2 h3 h4 h5 h6 h7 h8 h9 h10 h11 h12 h13 h14 h15 h16 h17 y2 s.heap.size x0 x1 ix0 ix1) (cwV 1 hG (gV wd_1838 wd_1840 wp_122 wd_17 wd_1841) rfl rfl rfl (by decide +kernel) ⟨Nat.le_of_ble_eq_true rfl, Nat.le_of_ble_eq_true rfl⟩) ⟨fun a U g mk q => by obtain ⟨q0, q1, qP, qK, qD⟩ := q; exact ⟨q0, q1, qP, va_K.moved (u := U) (U := U.calling g mk a) (Vm.Alike.refl U.vm) qK, qD⟩, va_recv hKc hPc (ci := 12) (q0 := 0) rfl rfl, fun U hU hW => ⟨rfl, by rw [hU], by rw [hU]; exact hPc, va_K.moved hW.alike hKc, hDc.weaken (fun _ _ _ _ => trivial)⟩⟩ rfl rfl hl.1 rfl (lv_room (Nat.le_of_ble_eq_true rfl)) dX12_sayName_51 ⟨by decide, by decide⟩) hS (fun q _ h => hFc q h) hFc (fun u2 t H1 locs ht hvm hw hB hz1 hk1 hS => ?_)
  obtain ⟨u2_0, rfl⟩ : ∃ z, z = u2 := ⟨_, rfl⟩
  have hw : (∀ j, iv (u2_0 j) (-128) 127) ∧ True := hw
  obtain ⟨iu2_0, -⟩ := hw
  obtain ⟨hP1, hK1, hD1⟩ := hB
  rw [ht] at hP1
  have hK1 := va_K.moved hvm.symm hK1
  obtain ⟨hP, hD⟩ := va_join (wr := [(h9, .inl (y0, 35, .inl f0)), (h8, .inl (y1, 35, .inr (.inl g0)))]) (w1 := [(h0, .inr (12, [.int 0, .ref h1, .ref h2, .int 0, .int 0, .int 0, .int 0, .int 0, .int 0, .int 0, .int 0, .int 0, .int 0, .int 0, .int 0, .int 0, .int 0, .int 0, .ref h3, .ref h4, .ref h5, .ref h6, .int 0, .int 0, .int 0, .int 0, .int 0, .int 0, .int 0, .int 0, .ref h7, .int 0, .int 0, .int 0, .int 0, .ref h8, .ref h9, .int 0, .int 0, .long 0, .int 0, .int 0, .ref h10, .ref h11, .ref h12, .ref h13, .ref h14, .int 0, .int 0, .int 0, .int 0, .int 0, .int 0, .int 0, .int 0, .int 0, .ref h15, .ref h16, .int 0, .int 0, .int 0, .int 0, .int 0, .int 0, .int 0, .int 0, .ref h17, .int 1, .int 0, .int x0, .int x1, .int 0])), (h17, .inl (y2, 100, .inl u2_0))]) hP hD [0, 3] [1, 2] rfl rfl (by decide) (by decide) hk1 hFc hP1 hD1
  have hK := (hK.sub (tys' := [(y0, .int), (y1, .long)]) [0, 1] rfl).app hK1
  generalize H1 = H at hP hS ⊢
  have hP : va_P (dC, dI) vwCl [(h9, .inl (y0, 35, .inl f0)), (h8, .inl (y1, 35, .inr (.inl g0))), (h0, .inr (12, [.int 0, .ref h1, .ref h2, .int 0, .int 0, .int 0, .int 0, .int 0, .int 0, .int 0, .int 0, .int 0, .int 0, .int 0, .int 0, .int 0, .int 0, .int 0, .ref h3, .ref h4, .ref h5, .ref h6, .int 0, .int 0, .int 0, .int 0, .int 0, .int 0, .int 0, .int 0, .ref h7, .int 0, .int 0, .int 0, .int 0, .ref h8, .ref h9, .int 0, .int 0, .long 0, .int 0, .int 0, .ref h10, .ref h11, .ref h12, .ref h13, .ref h14, .int 0, .int 0, .int 0, .int 0, .int 0, .int 0, .int 0, .int 0, .int 0, .ref h15, .ref h16, .int 0, .int 0, .int 0, .int 0, .int 0, .int 0, .int 0, .int 0, .ref h17, .int 1, .int 0, .int x0, .int x1, .int 0])), (h17, .inl (y2, 100, .inl u2_0))] H := hP
  have hD : va_D A [(h9, .inl (y0, 35, .inl f0)), (h8, .inl (y1, 35, .inr (.inl g0))), (h0, .inr (12, [.int 0, .ref h1, .ref h2, .int 0, .int 0, .int 0, .int 0, .int 0, .int 0, .int 0, .int 0, .int 0, .int 0, .int 0, .int 0, .int 0, .int 0, .int 0, .ref h3, .ref h4, .ref h5, .ref h6, .int 0, .int 0, .int 0, .int 0, .int 0, .int 0, .int 0, .int 0, .ref h7, .int 0, .int 0, .int 0, .int 0, .ref h8, .ref h9, .int 0, .int 0, .long 0, .int 0, .int 0, .ref h10, .ref h11, .ref h12, .ref h13, .ref h14, .int 0, .int 0, .int 0, .int 0, .int 0, .int 0, .int 0, .int 0, .int 0, .ref h15, .ref h16, .int 0, .int 0, .int 0, .int 0, .int 0, .int 0, .int 0, .int 0, .ref h17, .int 1, .int 0, .int x0, .int x1, .int 0])), (h17, .inl (y2, 100, .inl u2_0))] := hD
  have hK : va_K (dC, dI) vwCl [(y0, .int), (y1, .long), (y2, .byte)] s := hK
  refine lv_iinc (v := 16) (lv' := [(3, .int 16), (4, .int 119), (2, .int 27), (0, .ref h0), (1, .int 41)]) hx hb dX12_sayName_54 hl (k := 1) rfl (by decide) (by decide) rfl (fun ls hl => ?_)
  refine lv_goto (tgt := 24) hx hb dX12_sayName_57 (by decide) ?_
  refine lv_iload_n hx hb dX12_sayName_24 rfl (lv_at hl 0 rfl) ?_
  refine lv_if_lt (tgt := 60) hx hb dX12_sayName_25 (by decide) (fun c => absurd c (by decide)) (fun _ => ?_)
  refine lv_aload_n hx hb dX12_sayName_28 rfl (lv_at hl 3 rfl) ?_
  refine va_get (D := (dC, dI)) (ci := 12) (v := .ref h8) (C := RX12) (T := TX12) (N := 72) hx hb hG inGX12 hown hK hP 2 rfl rfl 35 (by decide) (hG _ wd_1342) (fun _ h9 => h9) rfl dX12_sayName_29 ?_
  refine lv_iload_n hx hb dX12_sayName_32 rfl (lv_at hl 2 rfl) ?_
  refine va_lald hx hb hK hP 1 1 rfl rfl (iv_in (by decide : iv 27 27 27) (by decide) (by decide) : vp_in 27 35) dX12_sayName_33 ?_
  refine lv_valL (y := 2003792484) (show g0 (27 : Int32).toNatClampNeg = 2003792484 from kg0_27) ?_
  refine lv_iload_n hx hb dX12_sayName_34 rfl (lv_at hl 0 rfl) ?_
  refine lv_lshr (v := _) hx hb dX12_sayName_35 rfl ?_
  refine lv_valL (y := 30575) (by decide +kernel) ?_
  refine lv_ldc2 hx hb hown (hG _ wd_1754) dX12_sayName_36 ?_
  refine lv_land hx hb dX12_sayName_39 ?_
  refine lv_valL (y := 111) (by decide +kernel) ?_
  refine lv_l2i (v := _) hx hb dX12_sayName_40 rfl ?_
  refine lv_val (y := 111) (by decide +kernel) ?_
  refine lv_istore (lv' := [(4, .int 111), (3, .int 16), (2, .int 27), (0, .ref h0), (1, .int 41)]) hx hb dX12_sayName_41 hl (by decide) rfl (fun ls hl => ?_)
  refine lv_iload hx hb dX12_sayName_43 (lv_at hl 0 rfl) ?_
  refine lv_if_le (tgt := 54) hx hb dX12_sayName_45 (by decide) (fun c => absurd c (by decide)) (fun _ => ?_)
  refine lv_aload_n hx hb dX12_sayName_48 rfl (lv_at hl 3 rfl) ?_
  refine lv_iload hx hb dX12_sayName_49 (lv_at hl 0 rfl) ?_
  have hPc := hP.sub (ws' := [(h0, .inr (12, [.int 0, .ref h1, .ref h2, .int 0, .int 0, .int 0, .int 0, .int 0, .int 0, .int 0, .int 0, .int 0, .int 0, .int 0, .int 0, .int 0, .int 0, .int 0, .ref h3, .ref h4, .ref h5, .ref h6, .int 0, .int 0, .int 0, .int 0, .int 0, .int 0, .int 0, .int 0, .ref h7, .int 0, .int 0, .int 0, .int 0, .ref h8, .ref h9, .int 0, .int 0, .long 0, .int 0, .int 0, .ref h10, .ref h11, .ref h12, .ref h13, .ref h14, .int 0, .int 0, .int 0, .int 0, .int 0, .int 0, .int 0, .int 0, .int 0, .ref h15, .ref h16, .int 0, .int 0, .int 0, .int 0, .int 0, .int 0, .int 0, .int 0, .ref h17, .int 1, .int 0, .int x0, .int x1, .int 0])), (h17, .inl (y2, 100, .inl u2_0))]) [2, 3] rfl
  have hDc := hD.sub (ws' := [(h0, .inr (12, [.int 0, .ref h1, .ref h2, .int 0, .int 0, .int 0, .int 0, .int 0, .int 0, .int 0, .int 0, .int 0, .int 0, .int 0, .int 0, .int 0, .int 0, .int 0, .ref h3, .ref h4, .ref h5, .ref h6, .int 0, .int 0, .int 0, .int 0, .int 0, .int 0, .int 0, .int 0, .ref h7, .int 0, .int 0, .int 0, .int 0, .ref h8, .ref h9, .int 0, .int 0, .long 0, .int 0, .int 0, .ref h10, .ref h11, .ref h12, .ref h13, .ref h14, .int 0, .int 0, .int 0, .int 0, .int 0, .int 0, .int 0, .int 0, .int 0, .ref h15, .ref h16, .int 0, .int 0, .int 0, .int 0, .int 0, .int 0, .int 0, .int 0, .ref h17, .int 1, .int 0, .int x0, .int x1, .int 0])), (h17, .inl (y2, 100, .inl u2_0))]) [2, 3] (by decide) rfl
  have hKc := hK.sub (tys' := [(y2, .byte)]) [2] rfl
  have hFc := va_free (wc := [(h0, .inr (12, [.int 0, .ref h1, .ref h2, .int 0, .int 0, .int 0, .int 0, .int 0, .int 0, .int 0, .int 0, .int 0, .int 0, .int 0, .int 0, .int 0, .int 0, .int 0, .ref h3, .ref h4, .ref h5, .ref h6, .int 0, .int 0, .int 0, .int 0, .int 0, .int 0, .int 0, .int 0, .ref h7, .int 0, .int 0, .int 0, .int 0, .ref h8, .ref h9, .int 0, .int 0, .long 0, .int 0, .int 0, .ref h10, .ref h11, .ref h12, .ref h13, .ref h14, .int 0, .int 0, .int 0, .int 0, .int 0, .int 0, .int 0, .int 0, .int 0, .ref h15, .ref h16, .int 0, .int 0, .int 0, .int 0, .int 0, .int 0, .int 0, .int 0, .ref h17, .int 1, .int 0, .int x0, .int x1, .int 0])), (h17, .inl (y2, 100, .inl u2_0))]) hD hS hA [2, 3] rfl
  refine va_callv (va_runV (As := [.int 111]) (rest := []) ⟨hx, hb, hml, hown, hG⟩ (cX12_say_2 l dC dI h0 h1 h2 h3 h4 h5 h6 h7 h8 h9 h10 h11 h12 h13 h14 h15 h16 h17 y2 H.size x0 x1 u2_0 ix0 ix1 iu2_0) (cwV 1 hG (gV wd_1838 wd_1840 wp_122 wd_17 wd_1841) rfl rfl rfl (by decide +kernel) ⟨Nat.le_of_ble_eq_true rfl, Nat.le_of_ble_eq_true rfl⟩) ⟨fun a U g mk q => by obtain ⟨q0, q1, qP, qK, qD⟩ := q; exact ⟨q0, q1, qP, va_K.moved (u := U) (U := U.calling g mk a) (Vm.Alike.refl U.vm) qK, qD⟩, va_recv hKc hPc (ci := 12) (q0 := 0) rfl rfl, fun U hU hW => ⟨rfl, by rw [hU], by rw [hU]; exact hPc, va_K.moved hW.alike hKc, hDc.weaken (fun _ _ _ _ => trivial)⟩⟩ rfl rfl hl.1 rfl (lv_room (Nat.le_of_ble_eq_true rfl)) dX12_sayName_51 ⟨by decide, by decide⟩) hS (fun q _ h => hFc q h) hFc (fun u4 t H1 locs ht hvm hw hB hz1 hk1 hS => ?_)
  obtain ⟨u4_0, rfl⟩ : ∃ z, z = u4 := ⟨_, rfl⟩
  have hw : (∀ j, iv (u4_0 j) (-128) 127) ∧ True := hw
  obtain ⟨iu4_0, -⟩ := hw
  obtain ⟨hP1, hK1, hD1⟩ := hB
  rw [ht] at hP1
  have hK1 := va_K.moved hvm.symm hK1
  obtain ⟨hP, hD⟩ := va_join (wr := [(h9, .inl (y0, 35, .inl f0)), (h8, .inl (y1, 35, .inr (.inl g0)))]) (w1 := [(h0, .inr (12, [.int 0, .ref h1, .ref h2, .int 0, .int 0, .int 0, .int 0, .int 0, .int 0, .int 0, .int 0, .int 0, .int 0, .int 0, .int 0, .int 0, .int 0, .int 0, .ref h3, .ref h4, .ref h5, .ref h6, .int 0, .int 0, .int 0, .int 0, .int 0, .int 0, .int 0, .int 0, .ref h7, .int 0, .int 0, .int 0, .int 0, .ref h8, .ref h9, .int 0, .int 0, .long 0, .int 0, .int 0, .ref h10, .ref h11, .ref h12, .ref h13, .ref h14, .int 0, .int 0, .int 0, .int 0, .int 0, .int 0, .int 0, .int 0, .int 0, .ref h15, .ref h16, .int 0, .int 0, .int 0, .int 0, .int 0, .int 0, .int 0, .int 0, .ref h17, .int 2, .int 0, .int x0, .int x1, .int 0])), (h17, .inl (y2, 100, .inl u4_0))]) hP hD [2, 3] [0, 1] rfl rfl (by decide) (by decide) hk1 hFc hP1 hD1
  have hK := (hK.sub (tys' := [(y0, .int), (y1, .long)]) [0, 1] rfl).app hK1
  generalize H1 = H at hP hS ⊢
  have hP : va_P (dC, dI) vwCl [(h9, .inl (y0, 35, .inl f0)), (h8, .inl (y1, 35, .inr (.inl g0))), (h0, .inr (12, [.int 0, .ref h1, .ref h2, .int 0, .int 0, .int 0, .int 0, .int 0, .int 0, .int 0, .int 0, .int 0, .int 0, .int 0, .int 0, .int 0, .int 0, .int 0, .ref h3, .ref h4, .ref h5, .ref h6, .int 0, .int 0, .int 0, .int 0, .int 0, .int 0, .int 0, .int 0, .ref h7, .int 0, .int 0, .int 0, .int 0, .ref h8, .ref h9, .int 0, .int 0, .long 0, .int 0, .int 0, .ref h10, .ref h11, .ref h12, .ref h13, .ref h14, .int 0, .int 0, .int 0, .int 0, .int 0, .int 0, .int 0, .int 0, .int 0, .ref h15, .ref h16, .int 0, .int 0, .int 0, .int 0, .int 0, .int 0, .int 0, .int 0, .ref h17, .int 2, .int 0, .int x0, .int x1, .int 0])), (h17, .inl (y2, 100, .inl u4_0))] H := hP
  have hD : va_D A [(h9, .inl (y0, 35, .inl f0)), (h8, .inl (y1, 35, .inr (.inl g0))), (h0, .inr (12, [.int 0, .ref h1, .ref h2, .int 0, .int 0, .int 0, .int 0, .int 0, .int 0, .int 0, .int 0, .int 0, .int 0, .int 0, .int 0, .int 0, .int 0, .int 0, .ref h3, .ref h4, .ref h5, .ref h6, .int 0, .int 0, .int 0, .int 0, .int 0, .int 0, .int 0, .int 0, .ref h7, .int 0, .int 0, .int 0, .int 0, .ref h8, .ref h9, .int 0, .int 0, .long 0, .int 0, .int 0, .ref h10, .ref h11, .ref h12, .ref h13, .ref h14, .int 0, .int 0, .int 0, .int 0, .int 0, .int 0, .int 0, .int 0, .int 0, .ref h15, .ref h16, .int 0, .int 0, .int 0, .int 0, .int 0, .int 0, .int 0, .int 0, .ref h17, .int 2, .int 0, .int x0, .int x1, .int 0])), (h17, .inl (y2, 100, .inl u4_0))] := hD
  have hK : va_K (dC, dI) vwCl [(y0, .int), (y1, .long), (y2, .byte)] s := hK
  refine lv_iinc (v := 8) (lv' := [(3, .int 8), (4, .int 111), (2, .int 27), (0, .ref h0), (1, .int 41)]) hx hb dX12_sayName_54 hl (k := 1) rfl (by decide) (by decide) rfl (fun ls hl => ?_)
  refine lv_goto (tgt := 24) hx hb dX12_sayName_57 (by decide) ?_
  refine lv_iload_n hx hb dX12_sayName_24 rfl (lv_at hl 0 rfl) ?_
  refine lv_if_lt (tgt := 60) hx hb dX12_sayName_25 (by decide) (fun c => absurd c (by decide)) (fun _ => ?_)
  refine lv_aload_n hx hb dX12_sayName_28 rfl (lv_at hl 3 rfl) ?_
  refine va_get (D := (dC, dI)) (ci := 12) (v := .ref h8) (C := RX12) (T := TX12) (N := 72) hx hb hG inGX12 hown hK hP 2 rfl rfl 35 (by decide) (hG _ wd_1342) (fun _ h9 => h9) rfl dX12_sayName_29 ?_
  refine lv_iload_n hx hb dX12_sayName_32 rfl (lv_at hl 2 rfl) ?_
  refine va_lald hx hb hK hP 1 1 rfl rfl (iv_in (by decide : iv 27 27 27) (by decide) (by decide) : vp_in 27 35) dX12_sayName_33 ?_
  refine lv_valL (y := 2003792484) (show g0 (27 : Int32).toNatClampNeg = 2003792484 from kg0_27) ?_
  refine lv_iload_n hx hb dX12_sayName_34 rfl (lv_at hl 0 rfl) ?_
  refine lv_lshr (v := _) hx hb dX12_sayName_35 rfl ?_
  refine lv_valL (y := 7827314) (by decide +kernel) ?_
  refine lv_ldc2 hx hb hown (hG _ wd_1754) dX12_sayName_36 ?_
  refine lv_land hx hb dX12_sayName_39 ?_
  refine lv_valL (y := 114) (by decide +kernel) ?_
  refine lv_l2i (v := _) hx hb dX12_sayName_40 rfl ?_
  refine lv_val (y := 114) (by decide +kernel) ?_
  refine lv_istore (lv' := [(4, .int 114), (3, .int 8), (2, .int 27), (0, .ref h0), (1, .int 41)]) hx hb dX12_sayName_41 hl (by decide) rfl (fun ls hl => ?_)
  refine lv_iload hx hb dX12_sayName_43 (lv_at hl 0 rfl) ?_
  refine lv_if_le (tgt := 54) hx hb dX12_sayName_45 (by decide) (fun c => absurd c (by decide)) (fun _ => ?_)
  refine lv_aload_n hx hb dX12_sayName_48 rfl (lv_at hl 3 rfl) ?_
  refine lv_iload hx hb dX12_sayName_49 (lv_at hl 0 rfl) ?_
  have hPc := hP.sub (ws' := [(h0, .inr (12, [.int 0, .ref h1, .ref h2, .int 0, .int 0, .int 0, .int 0, .int 0, .int 0, .int 0, .int 0, .int 0, .int 0, .int 0, .int 0, .int 0, .int 0, .int 0, .ref h3, .ref h4, .ref h5, .ref h6, .int 0, .int 0, .int 0, .int 0, .int 0, .int 0, .int 0, .int 0, .ref h7, .int 0, .int 0, .int 0, .int 0, .ref h8, .ref h9, .int 0, .int 0, .long 0, .int 0, .int 0, .ref h10, .ref h11, .ref h12, .ref h13, .ref h14, .int 0, .int 0, .int 0, .int 0, .int 0, .int 0, .int 0, .int 0, .int 0, .ref h15, .ref h16, .int 0, .int 0, .int 0, .int 0, .int 0, .int 0, .int 0, .int 0, .ref h17, .int 2, .int 0, .int x0, .int x1, .int 0])), (h17, .inl (y2, 100, .inl u4_0))]) [2, 3] rfl
  have hDc := hD.sub (ws' := [(h0, .inr (12, [.int 0, .ref h1, .ref h2, .int 0, .int 0, .int 0, .int 0, .int 0, .int 0, .int 0, .int 0, .int 0, .int 0, .int 0, .int 0, .int 0, .int 0, .int 0, .ref h3, .ref h4, .ref h5, .ref h6, .int 0, .int 0, .int 0, .int 0, .int 0, .int 0, .int 0, .int 0, .ref h7, .int 0, .int 0, .int 0, .int 0, .ref h8, .ref h9, .int 0, .int 0, .long 0, .int 0, .int 0, .ref h10, .ref h11, .ref h12, .ref h13, .ref h14, .int 0, .int 0, .int 0, .int 0, .int 0, .int 0, .int 0, .int 0, .int 0, .ref h15, .ref h16, .int 0, .int 0, .int 0, .int 0, .int 0, .int 0, .int 0, .int 0, .ref h17, .int 2, .int 0, .int x0, .int x1, .int 0])), (h17, .inl (y2, 100, .inl u4_0))]) [2, 3] (by decide) rfl
  have hKc := hK.sub (tys' := [(y2, .byte)]) [2] rfl
  have hFc := va_free (wc := [(h0, .inr (12, [.int 0, .ref h1, .ref h2, .int 0, .int 0, .int 0, .int 0, .int 0, .int 0, .int 0, .int 0, .int 0, .int 0, .int 0, .int 0, .int 0, .int 0, .int 0, .ref h3, .ref h4, .ref h5, .ref h6, .int 0, .int 0, .int 0, .int 0, .int 0, .int 0, .int 0, .int 0, .ref h7, .int 0, .int 0, .int 0, .int 0, .ref h8, .ref h9, .int 0, .int 0, .long 0, .int 0, .int 0, .ref h10, .ref h11, .ref h12, .ref h13, .ref h14, .int 0, .int 0, .int 0, .int 0, .int 0, .int 0, .int 0, .int 0, .int 0, .ref h15, .ref h16, .int 0, .int 0, .int 0, .int 0, .int 0, .int 0, .int 0, .int 0, .ref h17, .int 2, .int 0, .int x0, .int x1, .int 0])), (h17, .inl (y2, 100, .inl u4_0))]) hD hS hA [2, 3] rfl
  refine va_callv (va_runV (As := [.int 114]) (rest := []) ⟨hx, hb, hml, hown, hG⟩ (cX12_say_3 l dC dI h0 h1 h2 h3 h4 h5 h6 h7 h8 h9 h10 h11 h12 h13 h14 h15 h16 h17 y2 H.size x0 x1 u4_0 ix0 ix1 iu4_0) (cwV 1 hG (gV wd_1838 wd_1840 wp_122 wd_17 wd_1841) rfl rfl rfl (by decide +kernel) ⟨Nat.le_of_ble_eq_true rfl, Nat.le_of_ble_eq_true rfl⟩) ⟨fun a U g mk q => by obtain ⟨q0, q1, qP, qK, qD⟩ := q; exact ⟨q0, q1, qP, va_K.moved (u := U) (U := U.calling g mk a) (Vm.Alike.refl U.vm) qK, qD⟩, va_recv hKc hPc (ci := 12) (q0 := 0) rfl rfl, fun U hU hW => ⟨rfl, by rw [hU], by rw [hU]; exact hPc, va_K.moved hW.alike hKc, hDc.weaken (fun _ _ _ _ => trivial)⟩⟩ rfl rfl hl.1 rfl (lv_room (Nat.le_of_ble_eq_true rfl)) dX12_sayName_51 ⟨by decide, by decide⟩) hS (fun q _ h => hFc q h) hFc (fun u6 t H1 locs ht hvm hw hB hz1 hk1 hS => ?_)
  obtain ⟨u6_0, rfl⟩ : ∃ z, z = u6 := ⟨_, rfl⟩
  have hw : (∀ j, iv (u6_0 j) (-128) 127) ∧ True := hw
  obtain ⟨iu6_0, -⟩ := hw
  obtain ⟨hP1, hK1, hD1⟩ := hB
  rw [ht] at hP1
  have hK1 := va_K.moved hvm.symm hK1
  obtain ⟨hP, hD⟩ := va_join (wr := [(h9, .inl (y0, 35, .inl f0)), (h8, .inl (y1, 35, .inr (.inl g0)))]) (w1 := [(h0, .inr (12, [.int 0, .ref h1, .ref h2, .int 0, .int 0, .int 0, .int 0, .int 0, .int 0, .int 0, .int 0, .int 0, .int 0, .int 0, .int 0, .int 0, .int 0, .int 0, .ref h3, .ref h4, .ref h5, .ref h6, .int 0, .int 0, .int 0, .int 0, .int 0, .int 0, .int 0, .int 0, .ref h7, .int 0, .int 0, .int 0, .int 0, .ref h8, .ref h9, .int 0, .int 0, .long 0, .int 0, .int 0, .ref h10, .ref h11, .ref h12, .ref h13, .ref h14, .int 0, .int 0, .int 0, .int 0, .int 0, .int 0, .int 0, .int 0, .int 0, .ref h15, .ref h16, .int 0, .int 0, .int 0, .int 0, .int 0, .int 0, .int 0, .int 0, .ref h17, .int 3, .int 0, .int x0, .int x1, .int 0])), (h17, .inl (y2, 100, .inl u6_0))]) hP hD [2, 3] [0, 1] rfl rfl (by decide) (by decide) hk1 hFc hP1 hD1
  have hK := (hK.sub (tys' := [(y0, .int), (y1, .long)]) [0, 1] rfl).app hK1
  generalize H1 = H at hP hS ⊢
  have hP : va_P (dC, dI) vwCl [(h9, .inl (y0, 35, .inl f0)), (h8, .inl (y1, 35, .inr (.inl g0))), (h0, .inr (12, [.int 0, .ref h1, .ref h2, .int 0, .int 0, .int 0, .int 0, .int 0, .int 0, .int 0, .int 0, .int 0, .int 0, .int 0, .int 0, .int 0, .int 0, .int 0, .ref h3, .ref h4, .ref h5, .ref h6, .int 0, .int 0, .int 0, .int 0, .int 0, .int 0, .int 0, .int 0, .ref h7, .int 0, .int 0, .int 0, .int 0, .ref h8, .ref h9, .int 0, .int 0, .long 0, .int 0, .int 0, .ref h10, .ref h11, .ref h12, .ref h13, .ref h14, .int 0, .int 0, .int 0, .int 0, .int 0, .int 0, .int 0, .int 0, .int 0, .ref h15, .ref h16, .int 0, .int 0, .int 0, .int 0, .int 0, .int 0, .int 0, .int 0, .ref h17, .int 3, .int 0, .int x0, .int x1, .int 0])), (h17, .inl (y2, 100, .inl u6_0))] H := hP
  have hD : va_D A [(h9, .inl (y0, 35, .inl f0)), (h8, .inl (y1, 35, .inr (.inl g0))), (h0, .inr (12, [.int 0, .ref h1, .ref h2, .int 0, .int 0, .int 0, .int 0, .int 0, .int 0, .int 0, .int 0, .int 0, .int 0, .int 0, .int 0, .int 0, .int 0, .int 0, .ref h3, .ref h4, .ref h5, .ref h6, .int 0, .int 0, .int 0, .int 0, .int 0, .int 0, .int 0, .int 0, .ref h7, .int 0, .int 0, .int 0, .int 0, .ref h8, .ref h9, .int 0, .int 0, .long 0, .int 0, .int 0, .ref h10, .ref h11, .ref h12, .ref h13, .ref h14, .int 0, .int 0, .int 0, .int 0, .int 0, .int 0, .int 0, .int 0, .int 0, .ref h15, .ref h16, .int 0, .int 0, .int 0, .int 0, .int 0, .int 0, .int 0, .int 0, .ref h17, .int 3, .int 0, .int x0, .int x1, .int 0])), (h17, .inl (y2, 100, .inl u6_0))] := hD
  have hK : va_K (dC, dI) vwCl [(y0, .int), (y1, .long), (y2, .byte)] s := hK
  refine lv_iinc (v := 0) (lv' := [(3, .int 0), (4, .int 114), (2, .int 27), (0, .ref h0), (1, .int 41)]) hx hb dX12_sayName_54 hl (k := 1) rfl (by decide) (by decide) rfl (fun ls hl => ?_)
  refine lv_goto (tgt := 24) hx hb dX12_sayName_57 (by decide) ?_
  refine lv_iload_n hx hb dX12_sayName_24 rfl (lv_at hl 0 rfl) ?_
  refine lv_if_lt (tgt := 60) hx hb dX12_sayName_25 (by decide) (fun c => absurd c (by decide)) (fun _ => ?_)
  refine lv_aload_n hx hb dX12_sayName_28 rfl (lv_at hl 3 rfl) ?_
  refine va_get (D := (dC, dI)) (ci := 12) (v := .ref h8) (C := RX12) (T := TX12) (N := 72) hx hb hG inGX12 hown hK hP 2 rfl rfl 35 (by decide) (hG _ wd_1342) (fun _ h9 => h9) rfl dX12_sayName_29 ?_
  refine lv_iload_n hx hb dX12_sayName_32 rfl (lv_at hl 2 rfl) ?_
  refine va_lald hx hb hK hP 1 1 rfl rfl (iv_in (by decide : iv 27 27 27) (by decide) (by decide) : vp_in 27 35) dX12_sayName_33 ?_
  refine lv_valL (y := 2003792484) (show g0 (27 : Int32).toNatClampNeg = 2003792484 from kg0_27) ?_
  refine lv_iload_n hx hb dX12_sayName_34 rfl (lv_at hl 0 rfl) ?_
  refine lv_lshr (v := _) hx hb dX12_sayName_35 rfl ?_
  refine lv_valL (y := 2003792484) (by decide +kernel) ?_
  refine lv_ldc2 hx hb hown (hG _ wd_1754) dX12_sayName_36 ?_
  refine lv_land hx hb dX12_sayName_39 ?_
  refine lv_valL (y := 100) (by decide +kernel) ?_
  refine lv_l2i (v := _) hx hb dX12_sayName_40 rfl ?_
  refine lv_val (y := 100) (by decide +kernel) ?_
  refine lv_istore (lv' := [(4, .int 100), (3, .int 0), (2, .int 27), (0, .ref h0), (1, .int 41)]) hx hb dX12_sayName_41 hl (by decide) rfl (fun ls hl => ?_)
  refine lv_iload hx hb dX12_sayName_43 (lv_at hl 0 rfl) ?_
  refine lv_if_le (tgt := 54) hx hb dX12_sayName_45 (by decide) (fun c => absurd c (by decide)) (fun _ => ?_)
  refine lv_aload_n hx hb dX12_sayName_48 rfl (lv_at hl 3 rfl) ?_
  refine lv_iload hx hb dX12_sayName_49 (lv_at hl 0 rfl) ?_
  have hPc := hP.sub (ws' := [(h0, .inr (12, [.int 0, .ref h1, .ref h2, .int 0, .int 0, .int 0, .int 0, .int 0, .int 0, .int 0, .int 0, .int 0, .int 0, .int 0, .int 0, .int 0, .int 0, .int 0, .ref h3, .ref h4, .ref h5, .ref h6, .int 0, .int 0, .int 0, .int 0, .int 0, .int 0, .int 0, .int 0, .ref h7, .int 0, .int 0, .int 0, .int 0, .ref h8, .ref h9, .int 0, .int 0, .long 0, .int 0, .int 0, .ref h10, .ref h11, .ref h12, .ref h13, .ref h14, .int 0, .int 0, .int 0, .int 0, .int 0, .int 0, .int 0, .int 0, .int 0, .ref h15, .ref h16, .int 0, .int 0, .int 0, .int 0, .int 0, .int 0, .int 0, .int 0, .ref h17, .int 3, .int 0, .int x0, .int x1, .int 0])), (h17, .inl (y2, 100, .inl u6_0))]) [2, 3] rfl
  have hDc := hD.sub (ws' := [(h0, .inr (12, [.int 0, .ref h1, .ref h2, .int 0, .int 0, .int 0, .int 0, .int 0, .int 0, .int 0, .int 0, .int 0, .int 0, .int 0, .int 0, .int 0, .int 0, .int 0, .ref h3, .ref h4, .ref h5, .ref h6, .int 0, .int 0, .int 0, .int 0, .int 0, .int 0, .int 0, .int 0, .ref h7, .int 0, .int 0, .int 0, .int 0, .ref h8, .ref h9, .int 0, .int 0, .long 0, .int 0, .int 0, .ref h10, .ref h11, .ref h12, .ref h13, .ref h14, .int 0, .int 0, .int 0, .int 0, .int 0, .int 0, .int 0, .int 0, .int 0, .ref h15, .ref h16, .int 0, .int 0, .int 0, .int 0, .int 0, .int 0, .int 0, .int 0, .ref h17, .int 3, .int 0, .int x0, .int x1, .int 0])), (h17, .inl (y2, 100, .inl u6_0))]) [2, 3] (by decide) rfl
  have hKc := hK.sub (tys' := [(y2, .byte)]) [2] rfl
  have hFc := va_free (wc := [(h0, .inr (12, [.int 0, .ref h1, .ref h2, .int 0, .int 0, .int 0, .int 0, .int 0, .int 0, .int 0, .int 0, .int 0, .int 0, .int 0, .int 0, .int 0, .int 0, .int 0, .ref h3, .ref h4, .ref h5, .ref h6, .int 0, .int 0, .int 0, .int 0, .int 0, .int 0, .int 0, .int 0, .ref h7, .int 0, .int 0, .int 0, .int 0, .ref h8, .ref h9, .int 0, .int 0, .long 0, .int 0, .int 0, .ref h10, .ref h11, .ref h12, .ref h13, .ref h14, .int 0, .int 0, .int 0, .int 0, .int 0, .int 0, .int 0, .int 0, .int 0, .ref h15, .ref h16, .int 0, .int 0, .int 0, .int 0, .int 0, .int 0, .int 0, .int 0, .ref h17, .int 3, .int 0, .int x0, .int x1, .int 0])), (h17, .inl (y2, 100, .inl u6_0))]) hD hS hA [2, 3] rfl
  refine va_callv (va_runV (As := [.int 100]) (rest := []) ⟨hx, hb, hml, hown, hG⟩ (cX12_say_4 l dC dI h0 h1 h2 h3 h4 h5 h6 h7 h8 h9 h10 h11 h12 h13 h14 h15 h16 h17 y2 H.size x0 x1 u6_0 ix0 ix1 iu6_0) (cwV 1 hG (gV wd_1838 wd_1840 wp_122 wd_17 wd_1841) rfl rfl rfl (by decide +kernel) ⟨Nat.le_of_ble_eq_true rfl, Nat.le_of_ble_eq_true rfl⟩) ⟨fun a U g mk q => by obtain ⟨q0, q1, qP, qK, qD⟩ := q; exact ⟨q0, q1, qP, va_K.moved (u := U) (U := U.calling g mk a) (Vm.Alike.refl U.vm) qK, qD⟩, va_recv hKc hPc (ci := 12) (q0 := 0) rfl rfl, fun U hU hW => ⟨rfl, by rw [hU], by rw [hU]; exact hPc, va_K.moved hW.alike hKc, hDc.weaken (fun _ _ _ _ => trivial)⟩⟩ rfl rfl hl.1 rfl (lv_room (Nat.le_of_ble_eq_true rfl)) dX12_sayName_51 ⟨by decide, by decide⟩) hS (fun q _ h => hFc q h) hFc (fun u8 t H1 locs ht hvm hw hB hz1 hk1 hS => ?_)
  obtain ⟨u8_0, rfl⟩ : ∃ z, z = u8 := ⟨_, rfl⟩
  have hw : (∀ j, iv (u8_0 j) (-128) 127) ∧ True := hw
  obtain ⟨iu8_0, -⟩ := hw
  obtain ⟨hP1, hK1, hD1⟩ := hB
  rw [ht] at hP1
  have hK1 := va_K.moved hvm.symm hK1
  obtain ⟨hP, hD⟩ := va_join (wr := [(h9, .inl (y0, 35, .inl f0)), (h8, .inl (y1, 35, .inr (.inl g0)))]) (w1 := [(h0, .inr (12, [.int 0, .ref h1, .ref h2, .int 0, .int 0, .int 0, .int 0, .int 0, .int 0, .int 0, .int 0, .int 0, .int 0, .int 0, .int 0, .int 0, .int 0, .int 0, .ref h3, .ref h4, .ref h5, .ref h6, .int 0, .int 0, .int 0, .int 0, .int 0, .int 0, .int 0, .int 0, .ref h7, .int 0, .int 0, .int 0, .int 0, .ref h8, .ref h9, .int 0, .int 0, .long 0, .int 0, .int 0, .ref h10, .ref h11, .ref h12, .ref h13, .ref h14, .int 0, .int 0, .int 0, .int 0, .int 0, .int 0, .int 0, .int 0, .int 0, .ref h15, .ref h16, .int 0, .int 0, .int 0, .int 0, .int 0, .int 0, .int 0, .int 0, .ref h17, .int 4, .int 0, .int x0, .int x1, .int 0])), (h17, .inl (y2, 100, .inl u8_0))]) hP hD [2, 3] [0, 1] rfl rfl (by decide) (by decide) hk1 hFc hP1 hD1
  have hK := (hK.sub (tys' := [(y0, .int), (y1, .long)]) [0, 1] rfl).app hK1
  generalize H1 = H at hP hS ⊢
  have hP : va_P (dC, dI) vwCl [(h9, .inl (y0, 35, .inl f0)), (h8, .inl (y1, 35, .inr (.inl g0))), (h0, .inr (12, [.int 0, .ref h1, .ref h2, .int 0, .int 0, .int 0, .int 0, .int 0, .int 0, .int 0, .int 0, .int 0, .int 0, .int 0, .int 0, .int 0, .int 0, .int 0, .ref h3, .ref h4, .ref h5, .ref h6, .int 0, .int 0, .int 0, .int 0, .int 0, .int 0, .int 0, .int 0, .ref h7, .int 0, .int 0, .int 0, .int 0, .ref h8, .ref h9, .int 0, .int 0, .long 0, .int 0, .int 0, .ref h10, .ref h11, .ref h12, .ref h13, .ref h14, .int 0, .int 0, .int 0, .int 0, .int 0, .int 0, .int 0, .int 0, .int 0, .ref h15, .ref h16, .int 0, .int 0, .int 0, .int 0, .int 0, .int 0, .int 0, .int 0, .ref h17, .int 4, .int 0, .int x0, .int x1, .int 0])), (h17, .inl (y2, 100, .inl u8_0))] H := hP
  have hD : va_D A [(h9, .inl (y0, 35, .inl f0)), (h8, .inl (y1, 35, .inr (.inl g0))), (h0, .inr (12, [.int 0, .ref h1, .ref h2, .int 0, .int 0, .int 0, .int 0, .int 0, .int 0, .int 0, .int 0, .int 0, .int 0, .int 0, .int 0, .int 0, .int 0, .int 0, .ref h3, .ref h4, .ref h5, .ref h6, .int 0, .int 0, .int 0, .int 0, .int 0, .int 0, .int 0, .int 0, .ref h7, .int 0, .int 0, .int 0, .int 0, .ref h8, .ref h9, .int 0, .int 0, .long 0, .int 0, .int 0, .ref h10, .ref h11, .ref h12, .ref h13, .ref h14, .int 0, .int 0, .int 0, .int 0, .int 0, .int 0, .int 0, .int 0, .int 0, .ref h15, .ref h16, .int 0, .int 0, .int 0, .int 0, .int 0, .int 0, .int 0, .int 0, .ref h17, .int 4, .int 0, .int x0, .int x1, .int 0])), (h17, .inl (y2, 100, .inl u8_0))] := hD
  have hK : va_K (dC, dI) vwCl [(y0, .int), (y1, .long), (y2, .byte)] s := hK
  refine lv_iinc (v := (-8)) (lv' := [(3, .int (-8)), (4, .int 100), (2, .int 27), (0, .ref h0), (1, .int 41)]) hx hb dX12_sayName_54 hl (k := 1) rfl (by decide) (by decide) rfl (fun ls hl => ?_)
  refine lv_goto (tgt := 24) hx hb dX12_sayName_57 (by decide) ?_
  refine lv_iload_n hx hb dX12_sayName_24 rfl (lv_at hl 0 rfl) ?_
  refine lv_if_lt (tgt := 60) hx hb dX12_sayName_25 (by decide) (fun _ => ?_) (fun c => absurd (by decide) c)
  refine lv_iinc (v := 28) (lv' := [(2, .int 28), (3, .int (-8)), (4, .int 100), (0, .ref h0), (1, .int 41)]) hx hb dX12_sayName_60 hl (k := 2) rfl (by decide) (by decide) rfl (fun ls hl => ?_)
  refine lv_goto (tgt := 2) hx hb dX12_sayName_63 (by decide) ?_
  refine lv_iload_n hx hb dX12_sayName_2 rfl (lv_at hl 0 rfl) ?_
  refine lv_bipush (v := 35) hx hb dX12_sayName_3 (by decide) ?_
  refine lv_icmp_ge (tgt := 66) hx hb dX12_sayName_5 (by decide) (fun c => absurd c (by decide)) (fun _ => ?_)
  refine lv_aload_n hx hb dX12_sayName_8 rfl (lv_at hl 3 rfl) ?_
  refine va_get (D := (dC, dI)) (ci := 12) (v := .ref h9) (C := RX12) (T := TX12) (N := 72) hx hb hG inGX12 hown hK hP 2 rfl rfl 36 (by decide) (hG _ wd_1343) (fun _ h9 => h9) rfl dX12_sayName_9 ?_
  refine lv_iload_n hx hb dX12_sayName_12 rfl (lv_at hl 0 rfl) ?_
  refine va_iald hx hb hK hP 0 0 rfl rfl (iv_in (by decide : iv 28 28 28) (by decide) (by decide) : vp_in 28 35) dX12_sayName_13 ?_
  refine lv_val (y := 42) (show f0 (28 : Int32).toNatClampNeg = 42 from kf0_28) ?_
  refine lv_iload_n hx hb dX12_sayName_14 rfl (lv_at hl 4 rfl) ?_
  refine lv_icmp_eq (tgt := 21) hx hb dX12_sayName_15 (by decide) (fun c => absurd c (by decide)) (fun _ => ?_)
  refine lv_goto (tgt := 60) hx hb dX12_sayName_18 (by decide) ?_
  refine lv_iinc (v := 29) (lv' := [(2, .int 29), (3, .int (-8)), (4, .int 100), (0, .ref h0), (1, .int 41)]) hx hb dX12_sayName_60 hl (k := 0) rfl (by decide) (by decide) rfl (fun ls hl => ?_)
  refine lv_goto (tgt := 2) hx hb dX12_sayName_63 (by decide) ?_
  refine lv_iload_n hx hb dX12_sayName_2 rfl (lv_at hl 0 rfl) ?_
  refine lv_bipush (v := 35) hx hb dX12_sayName_3 (by decide) ?_
  refine lv_icmp_ge (tgt := 66) hx hb dX12_sayName_5 (by decide) (fun c => absurd c (by decide)) (fun _ => ?_)
  refine lv_aload_n hx hb dX12_sayName_8 rfl (lv_at hl 3 rfl) ?_
  refine va_get (D := (dC, dI)) (ci := 12) (v := .ref h9) (C := RX12) (T := TX12) (N := 72) hx hb hG inGX12 hown hK hP 2 rfl rfl 36 (by decide) (hG _ wd_1343) (fun _ h9 => h9) rfl dX12_sayName_9 ?_
  refine lv_iload_n hx hb dX12_sayName_12 rfl (lv_at hl 0 rfl) ?_
  refine va_iald hx hb hK hP 0 0 rfl rfl (iv_in (by decide : iv 29 29 29) (by decide) (by decide) : vp_in 29 35) dX12_sayName_13 ?_
  refine lv_val (y := 43) (show f0 (29 : Int32).toNatClampNeg = 43 from kf0_29) ?_
  refine lv_iload_n hx hb dX12_sayName_14 rfl (lv_at hl 4 rfl) ?_
  refine lv_icmp_eq (tgt := 21) hx hb dX12_sayName_15 (by decide) (fun c => absurd c (by decide)) (fun _ => ?_)
  refine lv_goto (tgt := 60) hx hb dX12_sayName_18 (by decide) ?_
  refine lv_iinc (v := 30) (lv' := [(2, .int 30), (3, .int (-8)), (4, .int 100), (0, .ref h0), (1, .int 41)]) hx hb dX12_sayName_60 hl (k := 0) rfl (by decide) (by decide) rfl (fun ls hl => ?_)
  refine lv_goto (tgt := 2) hx hb dX12_sayName_63 (by decide) ?_
  refine lv_iload_n hx hb dX12_sayName_2 rfl (lv_at hl 0 rfl) ?_
  refine lv_bipush (v := 35) hx hb dX12_sayName_3 (by decide) ?_
  refine lv_icmp_ge (tgt := 66) hx hb dX12_sayName_5 (by decide) (fun c => absurd c (by decide)) (fun _ => ?_)
  refine lv_aload_n hx hb dX12_sayName_8 rfl (lv_at hl 3 rfl) ?_
  refine va_get (D := (dC, dI)) (ci := 12) (v := .ref h9) (C := RX12) (T := TX12) (N := 72) hx hb hG inGX12 hown hK hP 2 rfl rfl 36 (by decide) (hG _ wd_1343) (fun _ h9 => h9) rfl dX12_sayName_9 ?_
  refine lv_iload_n hx hb dX12_sayName_12 rfl (lv_at hl 0 rfl) ?_
  refine va_iald hx hb hK hP 0 0 rfl rfl (iv_in (by decide : iv 30 30 30) (by decide) (by decide) : vp_in 30 35) dX12_sayName_13 ?_
  refine lv_val (y := 44) (show f0 (30 : Int32).toNatClampNeg = 44 from kf0_30) ?_
  refine lv_iload_n hx hb dX12_sayName_14 rfl (lv_at hl 4 rfl) ?_
  refine lv_icmp_eq (tgt := 21) hx hb dX12_sayName_15 (by decide) (fun c => absurd c (by decide)) (fun _ => ?_)
  refine lv_goto (tgt := 60) hx hb dX12_sayName_18 (by decide) ?_
  refine lv_iinc (v := 31) (lv' := [(2, .int 31), (3, .int (-8)), (4, .int 100), (0, .ref h0), (1, .int 41)]) hx hb dX12_sayName_60 hl (k := 0) rfl (by decide) (by decide) rfl (fun ls hl => ?_)
  refine lv_goto (tgt := 2) hx hb dX12_sayName_63 (by decide) ?_
  refine lv_iload_n hx hb dX12_sayName_2 rfl (lv_at hl 0 rfl) ?_
  refine lv_bipush (v := 35) hx hb dX12_sayName_3 (by decide) ?_
  refine lv_icmp_ge (tgt := 66) hx hb dX12_sayName_5 (by decide) (fun c => absurd c (by decide)) (fun _ => ?_)
  refine lv_aload_n hx hb dX12_sayName_8 rfl (lv_at hl 3 rfl) ?_
  refine va_get (D := (dC, dI)) (ci := 12) (v := .ref h9) (C := RX12) (T := TX12) (N := 72) hx hb hG inGX12 hown hK hP 2 rfl rfl 36 (by decide) (hG _ wd_1343) (fun _ h9 => h9) rfl dX12_sayName_9 ?_
  refine lv_iload_n hx hb dX12_sayName_12 rfl (lv_at hl 0 rfl) ?_
  refine va_iald hx hb hK hP 0 0 rfl rfl (iv_in (by decide : iv 31 31 31) (by decide) (by decide) : vp_in 31 35) dX12_sayName_13 ?_
  refine lv_val (y := 45) (show f0 (31 : Int32).toNatClampNeg = 45 from kf0_31) ?_
  refine lv_iload_n hx hb dX12_sayName_14 rfl (lv_at hl 4 rfl) ?_
  refine lv_icmp_eq (tgt := 21) hx hb dX12_sayName_15 (by decide) (fun c => absurd c (by decide)) (fun _ => ?_)
  refine lv_goto (tgt := 60) hx hb dX12_sayName_18 (by decide) ?_
  refine lv_iinc (v := 32) (lv' := [(2, .int 32), (3, .int (-8)), (4, .int 100), (0, .ref h0), (1, .int 41)]) hx hb dX12_sayName_60 hl (k := 0) rfl (by decide) (by decide) rfl (fun ls hl => ?_)
  refine lv_goto (tgt := 2) hx hb dX12_sayName_63 (by decide) ?_
  refine lv_iload_n hx hb dX12_sayName_2 rfl (lv_at hl 0 rfl) ?_
  refine lv_bipush (v := 35) hx hb dX12_sayName_3 (by decide) ?_
  refine lv_icmp_ge (tgt := 66) hx hb dX12_sayName_5 (by decide) (fun c => absurd c (by decide)) (fun _ => ?_)
  refine lv_aload_n hx hb dX12_sayName_8 rfl (lv_at hl 3 rfl) ?_
  refine va_get (D := (dC, dI)) (ci := 12) (v := .ref h9) (C := RX12) (T := TX12) (N := 72) hx hb hG inGX12 hown hK hP 2 rfl rfl 36 (by decide) (hG _ wd_1343) (fun _ h9 => h9) rfl dX12_sayName_9 ?_
  refine lv_iload_n hx hb dX12_sayName_12 rfl (lv_at hl 0 rfl) ?_
  refine va_iald hx hb hK hP 0 0 rfl rfl (iv_in (by decide : iv 32 32 32) (by decide) (by decide) : vp_in 32 35) dX12_sayName_13 ?_
  refine lv_val (y := 46) (show f0 (32 : Int32).toNatClampNeg = 46 from kf0_32) ?_
  refine lv_iload_n hx hb dX12_sayName_14 rfl (lv_at hl 4 rfl) ?_
  refine lv_icmp_eq (tgt := 21) hx hb dX12_sayName_15 (by decide) (fun c => absurd c (by decide)) (fun _ => ?_)
  refine lv_goto (tgt := 60) hx hb dX12_sayName_18 (by decide) ?_
  refine lv_iinc (v := 33) (lv' := [(2, .int 33), (3, .int (-8)), (4, .int 100), (0, .ref h0), (1, .int 41)]) hx hb dX12_sayName_60 hl (k := 0) rfl (by decide) (by decide) rfl (fun ls hl => ?_)
  refine lv_goto (tgt := 2) hx hb dX12_sayName_63 (by decide) ?_
  refine lv_iload_n hx hb dX12_sayName_2 rfl (lv_at hl 0 rfl) ?_
  refine lv_bipush (v := 35) hx hb dX12_sayName_3 (by decide) ?_
  refine lv_icmp_ge (tgt := 66) hx hb dX12_sayName_5 (by decide) (fun c => absurd c (by decide)) (fun _ => ?_)
  refine lv_aload_n hx hb dX12_sayName_8 rfl (lv_at hl 3 rfl) ?_
  refine va_get (D := (dC, dI)) (ci := 12) (v := .ref h9) (C := RX12) (T := TX12) (N := 72) hx hb hG inGX12 hown hK hP 2 rfl rfl 36 (by decide) (hG _ wd_1343) (fun _ h9 => h9) rfl dX12_sayName_9 ?_
  refine lv_iload_n hx hb dX12_sayName_12 rfl (lv_at hl 0 rfl) ?_
  refine va_iald hx hb hK hP 0 0 rfl rfl (iv_in (by decide : iv 33 33 33) (by decide) (by decide) : vp_in 33 35) dX12_sayName_13 ?_
  refine lv_val (y := 47) (show f0 (33 : Int32).toNatClampNeg = 47 from kf0_33) ?_
  refine lv_iload_n hx hb dX12_sayName_14 rfl (lv_at hl 4 rfl) ?_
  refine lv_icmp_eq (tgt := 21) hx hb dX12_sayName_15 (by decide) (fun c => absurd c (by decide)) (fun _ => ?_)
  refine lv_goto (tgt := 60) hx hb dX12_sayName_18 (by decide) ?_
  refine lv_iinc (v := 34) (lv' := [(2, .int 34), (3, .int (-8)), (4, .int 100), (0, .ref h0), (1, .int 41)]) hx hb dX12_sayName_60 hl (k := 0) rfl (by decide) (by decide) rfl (fun ls hl => ?_)
  refine lv_goto (tgt := 2) hx hb dX12_sayName_63 (by decide) ?_
  refine lv_iload_n hx hb dX12_sayName_2 rfl (lv_at hl 0 rfl) ?_
  refine lv_bipush (v := 35) hx hb dX12_sayName_3 (by decide) ?_
  refine lv_icmp_ge (tgt := 66) hx hb dX12_sayName_5 (by decide) (fun c => absurd c (by decide)) (fun _ => ?_)
  refine lv_aload_n hx hb dX12_sayName_8 rfl (lv_at hl 3 rfl) ?_
  refine va_get (D := (dC, dI)) (ci := 12) (v := .ref h9) (C := RX12) (T := TX12) (N := 72) hx hb hG inGX12 hown hK hP 2 rfl rfl 36 (by decide) (hG _ wd_1343) (fun _ h9 => h9) rfl dX12_sayName_9 ?_
  refine lv_iload_n hx hb dX12_sayName_12 rfl (lv_at hl 0 rfl) ?_
  refine va_iald hx hb hK hP 0 0 rfl rfl (iv_in (by decide : iv 34 34 34) (by decide) (by decide) : vp_in 34 35) dX12_sayName_13 ?_
  refine lv_val (y := 48) (show f0 (34 : Int32).toNatClampNeg = 48 from kf0_34) ?_
  refine lv_iload_n hx hb dX12_sayName_14 rfl (lv_at hl 4 rfl) ?_
  refine lv_icmp_eq (tgt := 21) hx hb dX12_sayName_15 (by decide) (fun c => absurd c (by decide)) (fun _ => ?_)
  refine lv_goto (tgt := 60) hx hb dX12_sayName_18 (by decide) ?_
  refine lv_iinc (v := 35) (lv' := [(2, .int 35), (3, .int (-8)), (4, .int 100), (0, .ref h0), (1, .int 41)]) hx hb dX12_sayName_60 hl (k := 0) rfl (by decide) (by decide) rfl (fun ls hl => ?_)
  refine lv_goto (tgt := 2) hx hb dX12_sayName_63 (by decide) ?_
  refine lv_iload_n hx hb dX12_sayName_2 rfl (lv_at hl 0 rfl) ?_
  refine lv_bipush (v := 35) hx hb dX12_sayName_3 (by decide) ?_
  refine lv_icmp_ge (tgt := 66) hx hb dX12_sayName_5 (by decide) (fun _ => ?_) (fun c => absurd (by decide) c)
  have hP9 := hP.sub (ws' := [(h0, .inr (12, [.int 0, .ref h1, .ref h2, .int 0, .int 0, .int 0, .int 0, .int 0, .int 0, .int 0, .int 0, .int 0, .int 0, .int 0, .int 0, .int 0, .int 0, .int 0, .ref h3, .ref h4, .ref h5, .ref h6, .int 0, .int 0, .int 0, .int 0, .int 0, .int 0, .int 0, .int 0, .ref h7, .int 0, .int 0, .int 0, .int 0, .ref h8, .ref h9, .int 0, .int 0, .long 0, .int 0, .int 0, .ref h10, .ref h11, .ref h12, .ref h13, .ref h14, .int 0, .int 0, .int 0, .int 0, .int 0, .int 0, .int 0, .int 0, .int 0, .ref h15, .ref h16, .int 0, .int 0, .int 0, .int 0, .int 0, .int 0, .int 0, .int 0, .ref h17, .int 4, .int 0, .int x0, .int x1, .int 0])), (h9, .inl (y0, 35, .inl f0)), (h8, .inl (y1, 35, .inr (.inl g0))), (h17, .inl (y2, 100, .inl u8_0))]) [2, 0, 1, 3] rfl
  have hD9 := hD.sub (ws' := [(h0, .inr (12, [.int 0, .ref h1, .ref h2, .int 0, .int 0, .int 0, .int 0, .int 0, .int 0, .int 0, .int 0, .int 0, .int 0, .int 0, .int 0, .int 0, .int 0, .int 0, .ref h3, .ref h4, .ref h5, .ref h6, .int 0, .int 0, .int 0, .int 0, .int 0, .int 0, .int 0, .int 0, .ref h7, .int 0, .int 0, .int 0, .int 0, .ref h8, .ref h9, .int 0, .int 0, .long 0, .int 0, .int 0, .ref h10, .ref h11, .ref h12, .ref h13, .ref h14, .int 0, .int 0, .int 0, .int 0, .int 0, .int 0, .int 0, .int 0, .int 0, .ref h15, .ref h16, .int 0, .int 0, .int 0, .int 0, .int 0, .int 0, .int 0, .int 0, .ref h17, .int 4, .int 0, .int x0, .int x1, .int 0])), (h9, .inl (y0, 35, .inl f0)), (h8, .inl (y1, 35, .inr (.inl g0))), (h17, .inl (y2, 100, .inl u8_0))]) [2, 0, 1, 3] (by decide) rfl
  have hK9 := hK.sub (tys' := [(y0, .int), (y1, .long), (y2, .byte)]) [0, 1, 2] rfl
  exact W.vret hx hb hr (fun t ht hW => ⟨⟨u8_0, rfl, ⟨(fun j => iv_w (iu8_0 j) (by decide) (by decide)), trivial⟩, by rw [ht]; exact hP9, va_K.moved hW.alike hK9, hD9⟩, hS.F ht⟩) hS.2.2 dX12_sayName_66
set_option maxHeartbeats 4000000 in
set_option maxRecDepth 100000 in
theorem cX12_say_5 (l : Launch) (dC : Nat → ClassId) (dI : Nat → Nat → Nat) (h0 h1 h2 h3 h4 h5 h6 h7 h8 h9 h10 h11 h12 h13 h14 h15 h16 h17 : Nat) (y0 : ClassId) (sz : Nat) (x0 x1 : Int32) (f0 : Nat → Int32) (ix0 : iv x0 0 65534) (ix1 : iv x1 2 65536) (if0 : ∀ j, iv (f0 j) (-128) 127) : Met l yX12_say (Cond.code yX12_say cX12_say 2 none :: lw_G) ({ frames := 0, cells := 0, slots := 0, locals := 0 }) (va_Pc [.ref h0, .int 32] (fun U => U.heap.size = sz ∧ va_P (dC, dI) vwCl [(h0, .inr (12, [.int 0, .ref h1, .ref h2, .int 0, .int 0, .int 0, .int 0, .int 0, .int 0, .int 0, .int 0, .int 0, .int 0, .int 0, .int 0, .int 0, .int 0, .int 0, .ref h3, .ref h4, .ref h5, .ref h6, .int 0, .int 0, .int 0, .int 0, .int 0, .int 0, .int 0, .int 0, .ref h7, .int 0, .int 0, .int 0, .int 0, .ref h8, .ref h9, .int 0, .int 0, .long 0, .int 0, .int 0, .ref h10, .ref h11, .ref h12, .ref h13, .ref h14, .int 0, .int 0, .int 0, .int 0, .int 0, .int 0, .int 0, .int 0, .int 0, .ref h15, .ref h16, .int 0, .int 0, .int 0, .int 0, .int 0, .int 0, .int 0, .int 0, .ref h17, .int 4, .int 0, .int x0, .int x1, .int 0])), (h17, .inl (y0, 100, .inl f0))] U.heap ∧ va_K (dC, dI) vwCl [(y0, .byte)] U ∧ va_D (fun _ => True) [(h0, .inr (12, [.int 0, .ref h1, .ref h2, .int 0, .int 0, .int 0, .int 0, .int 0, .int 0, .int 0, .int 0, .int 0, .int 0, .int 0, .int 0, .int 0, .int 0, .int 0, .ref h3, .ref h4, .ref h5, .ref h6, .int 0, .int 0, .int 0, .int 0, .int 0, .int 0, .int 0, .int 0, .ref h7, .int 0, .int 0, .int 0, .int 0, .ref h8, .ref h9, .int 0, .int 0, .long 0, .int 0, .int 0, .ref h10, .ref h11, .ref h12, .ref h13, .ref h14, .int 0, .int 0, .int 0, .int 0, .int 0, .int 0, .int 0, .int 0, .int 0, .ref h15, .ref h16, .int 0, .int 0, .int 0, .int 0, .int 0, .int 0, .int 0, .int 0, .ref h17, .int 4, .int 0, .int x0, .int x1, .int 0])), (h17, .inl (y0, 100, .inl f0))])) (va_Qv (fun (u : (Nat → Int32)) => (∀ j, iv (u j) (-128) 127) ∧ True) (fun (u : (Nat → Int32)) (t : State) => va_P (dC, dI) vwCl [(h0, .inr (12, [.int 0, .ref h1, .ref h2, .int 0, .int 0, .int 0, .int 0, .int 0, .int 0, .int 0, .int 0, .int 0, .int 0, .int 0, .int 0, .int 0, .int 0, .int 0, .ref h3, .ref h4, .ref h5, .ref h6, .int 0, .int 0, .int 0, .int 0, .int 0, .int 0, .int 0, .int 0, .ref h7, .int 0, .int 0, .int 0, .int 0, .ref h8, .ref h9, .int 0, .int 0, .long 0, .int 0, .int 0, .ref h10, .ref h11, .ref h12, .ref h13, .ref h14, .int 0, .int 0, .int 0, .int 0, .int 0, .int 0, .int 0, .int 0, .int 0, .ref h15, .ref h16, .int 0, .int 0, .int 0, .int 0, .int 0, .int 0, .int 0, .int 0, .ref h17, .int 5, .int 0, .int x0, .int x1, .int 0])), (h17, .inl (y0, 100, .inl u))] t.heap ∧ va_K (dC, dI) vwCl [(y0, .byte)] t ∧ va_D (va_A [(h0, .inr (12, [.int 0, .ref h1, .ref h2, .int 0, .int 0, .int 0, .int 0, .int 0, .int 0, .int 0, .int 0, .int 0, .int 0, .int 0, .int 0, .int 0, .int 0, .int 0, .ref h3, .ref h4, .ref h5, .ref h6, .int 0, .int 0, .int 0, .int 0, .int 0, .int 0, .int 0, .int 0, .ref h7, .int 0, .int 0, .int 0, .int 0, .ref h8, .ref h9, .int 0, .int 0, .long 0, .int 0, .int 0, .ref h10, .ref h11, .ref h12, .ref h13, .ref h14, .int 0, .int 0, .int 0, .int 0, .int 0, .int 0, .int 0, .int 0, .int 0, .ref h15, .ref h16, .int 0, .int 0, .int 0, .int 0, .int 0, .int 0, .int 0, .int 0, .ref h17, .int 4, .int 0, .int x0, .int x1, .int 0])), (h17, .inl (y0, 100, .inl f0))] sz) [(h0, .inr (12, [.int 0, .ref h1, .ref h2, .int 0, .int 0, .int 0, .int 0, .int 0, .int 0, .int 0, .int 0, .int 0, .int 0, .int 0, .int 0, .int 0, .int 0, .int 0, .ref h3, .ref h4, .ref h5, .ref h6, .int 0, .int 0, .int 0, .int 0, .int 0, .int 0, .int 0, .int 0, .ref h7, .int 0, .int 0, .int 0, .int 0, .ref h8, .ref h9, .int 0, .int 0, .long 0, .int 0, .int 0, .ref h10, .ref h11, .ref h12, .ref h13, .ref h14, .int 0, .int 0, .int 0, .int 0, .int 0, .int 0, .int 0, .int 0, .int 0, .ref h15, .ref h16, .int 0, .int 0, .int 0, .int 0, .int 0, .int 0, .int 0, .int 0, .ref h17, .int 5, .int 0, .int x0, .int x1, .int 0])), (h17, .inl (y0, 100, .inl u))]) (va_A [(h0, .inr (12, [.int 0, .ref h1, .ref h2, .int 0, .int 0, .int 0, .int 0, .int 0, .int 0, .int 0, .int 0, .int 0, .int 0, .int 0, .int 0, .int 0, .int 0, .int 0, .ref h3, .ref h4, .ref h5, .ref h6, .int 0, .int 0, .int 0, .int 0, .int 0, .int 0, .int 0, .int 0, .ref h7, .int 0, .int 0, .int 0, .int 0, .ref h8, .ref h9, .int 0, .int 0, .long 0, .int 0, .int 0, .ref h10, .ref h11, .ref h12, .ref h13, .ref h14, .int 0, .int 0, .int 0, .int 0, .int 0, .int 0, .int 0, .int 0, .int 0, .ref h15, .ref h16, .int 0, .int 0, .int 0, .int 0, .int 0, .int 0, .int 0, .int 0, .ref h17, .int 4, .int 0, .int x0, .int x1, .int 0])), (h17, .inl (y0, 100, .inl f0))] sz)) 0 0 (va_A [(h0, .inr (12, [.int 0, .ref h1, .ref h2, .int 0, .int 0, .int 0, .int 0, .int 0, .int 0, .int 0, .int 0, .int 0, .int 0, .int 0, .int 0, .int 0, .int 0, .int 0, .ref h3, .ref h4, .ref h5, .ref h6, .int 0, .int 0, .int 0, .int 0, .int 0, .int 0, .int 0, .int 0, .ref h7, .int 0, .int 0, .int 0, .int 0, .ref h8, .ref h9, .int 0, .int 0, .long 0, .int 0, .int 0, .ref h10, .ref h11, .ref h12, .ref h13, .ref h14, .int 0, .int 0, .int 0, .int 0, .int 0, .int 0, .int 0, .int 0, .int 0, .ref h15, .ref h16, .int 0, .int 0, .int 0, .int 0, .int 0, .int 0, .int 0, .int 0, .ref h17, .int 4, .int 0, .int x0, .int x1, .int 0])), (h17, .inl (y0, 100, .inl f0))] sz) := by
  refine Met.ofW (cc := cX12_say) (maxL := 2) (ret := none) (by decide) rfl ?_
  intro p e s m args below meth c s₁ B hml hv
  obtain ⟨rfl, hsz, hP, hK, hD0⟩ := hv
  have hx := B.exec
  have hb := B.bytes
  have hr := B.returns
  have hts0 := atoms_spec (ws := Cond.code yX12_say cX12_say 2 none :: lw_G) B.pre
  have hG : ∀ w ∈ lw_G, w.before _ s = true := fun w h => hts0 w (List.mem_cons_of_mem _ h)
  have hown : s.vm.findClass RX12 = some m.cls := findClass_of_methodNamed B.named
  have hlocks := B.notSynchronized
  subst hsz
  have hD := hD0.self (sz := s.heap.size)
  generalize hAe : va_A [(h0, .inr (12, [.int 0, .ref h1, .ref h2, .int 0, .int 0, .int 0, .int 0, .int 0, .int 0, .int 0, .int 0, .int 0, .int 0, .int 0, .int 0, .int 0, .int 0, .int 0, .ref h3, .ref h4, .ref h5, .ref h6, .int 0, .int 0, .int 0, .int 0, .int 0, .int 0, .int 0, .int 0, .ref h7, .int 0, .int 0, .int 0, .int 0, .ref h8, .ref h9, .int 0, .int 0, .long 0, .int 0, .int 0, .ref h10, .ref h11, .ref h12, .ref h13, .ref h14, .int 0, .int 0, .int 0, .int 0, .int 0, .int 0, .int 0, .int 0, .int 0, .ref h15, .ref h16, .int 0, .int 0, .int 0, .int 0, .int 0, .int 0, .int 0, .int 0, .ref h17, .int 4, .int 0, .int x0, .int x1, .int 0])), (h17, .inl (y0, 100, .inl f0))] s.heap.size = A at hD ⊢
  have hA : ∀ q : Nat, s.heap.size ≤ q → A q := fun q h => by rw [← hAe]; exact Or.inr h
  have hS : va_S A s.heap s.heap [] := va_S.rf
  have hP : va_P (dC, dI) vwCl [(h0, .inr (12, [.int 0, .ref h1, .ref h2, .int 0, .int 0, .int 0, .int 0, .int 0, .int 0, .int 0, .int 0, .int 0, .int 0, .int 0, .int 0, .int 0, .int 0, .int 0, .ref h3, .ref h4, .ref h5, .ref h6, .int 0, .int 0, .int 0, .int 0, .int 0, .int 0, .int 0, .int 0, .ref h7, .int 0, .int 0, .int 0, .int 0, .ref h8, .ref h9, .int 0, .int 0, .long 0, .int 0, .int 0, .ref h10, .ref h11, .ref h12, .ref h13, .ref h14, .int 0, .int 0, .int 0, .int 0, .int 0, .int 0, .int 0, .int 0, .int 0, .ref h15, .ref h16, .int 0, .int 0, .int 0, .int 0, .int 0, .int 0, .int 0, .int 0, .ref h17, .int 4, .int 0, .int x0, .int x1, .int 0])), (h17, .inl (y0, 100, .inl f0))] s.heap := hP
  have hl := lv_entry ([.ref h0, .int 32]) (n := 2) (Nat.le_of_ble_eq_true rfl)
  rw [lg_entry_eq]
  generalize (lg_sl ([.ref h0, .int 32]) ++ List.replicate (2 - (lg_sl ([.ref h0, .int 32])).length) Slot.unset).toArray = ls at hl ⊢
  have hl : lv_has ls 2 [(0, .ref h0), (1, .int 32)] := hl
  refine lv_aload_n hx hb dX12_say_0 rfl (lv_at hl 0 rfl) ?_
  refine va_get (D := (dC, dI)) (ci := 12) (v := .ref h17) (C := RX12) (T := TX12) (N := 72) hx hb hG inGX12 hown hK hP 0 rfl rfl 66 (by decide) (hG _ wd_1373) (fun _ h9 => h9) rfl dX12_say_1 ?_
  refine lv_aload_n hx hb dX12_say_4 rfl (lv_at hl 0 rfl) ?_
  refine va_get (D := (dC, dI)) (ci := 12) (v := .int 4) (C := RX12) (T := TX12) (N := 72) hx hb hG inGX12 hown hK hP 0 rfl rfl 67 (by decide) (hG _ wd_1374) (fun _ h9 => h9) rfl dX12_say_5 ?_
  refine lv_iload_n hx hb dX12_say_8 rfl (lv_at hl 1 rfl) ?_
  refine lv_i2b (v := _) hx hb dX12_say_9 rfl ?_
  refine lv_val (y := 32) (by decide +kernel) ?_
  refine va_bast hx hb hK hP hD hS 1 0 rfl rfl (iv_in (by decide : iv 4 4 4) (by decide) (by decide) : vp_in 4 100) dX12_say_10 (fun H locs hP hD hS => ?_)
  have hP : va_P (dC, dI) vwCl [(h0, .inr (12, [.int 0, .ref h1, .ref h2, .int 0, .int 0, .int 0, .int 0, .int 0, .int 0, .int 0, .int 0, .int 0, .int 0, .int 0, .int 0, .int 0, .int 0, .int 0, .ref h3, .ref h4, .ref h5, .ref h6, .int 0, .int 0, .int 0, .int 0, .int 0, .int 0, .int 0, .int 0, .ref h7, .int 0, .int 0, .int 0, .int 0, .ref h8, .ref h9, .int 0, .int 0, .long 0, .int 0, .int 0, .ref h10, .ref h11, .ref h12, .ref h13, .ref h14, .int 0, .int 0, .int 0, .int 0, .int 0, .int 0, .int 0, .int 0, .int 0, .ref h15, .ref h16, .int 0, .int 0, .int 0, .int 0, .int 0, .int 0, .int 0, .int 0, .ref h17, .int 4, .int 0, .int x0, .int x1, .int 0])), (h17, .inl (y0, 100, .inl (upd f0 (4 : Int32).toNatClampNeg (vp_nar .byte 32))))] H := hP
  have hD : va_D A [(h0, .inr (12, [.int 0, .ref h1, .ref h2, .int 0, .int 0, .int 0, .int 0, .int 0, .int 0, .int 0, .int 0, .int 0, .int 0, .int 0, .int 0, .int 0, .int 0, .int 0, .ref h3, .ref h4, .ref h5, .ref h6, .int 0, .int 0, .int 0, .int 0, .int 0, .int 0, .int 0, .int 0, .ref h7, .int 0, .int 0, .int 0, .int 0, .ref h8, .ref h9, .int 0, .int 0, .long 0, .int 0, .int 0, .ref h10, .ref h11, .ref h12, .ref h13, .ref h14, .int 0, .int 0, .int 0, .int 0, .int 0, .int 0, .int 0, .int 0, .int 0, .ref h15, .ref h16, .int 0, .int 0, .int 0, .int 0, .int 0, .int 0, .int 0, .int 0, .ref h17, .int 4, .int 0, .int x0, .int x1, .int 0])), (h17, .inl (y0, 100, .inl (upd f0 (4 : Int32).toNatClampNeg (vp_nar .byte 32))))] := hD
  obtain ⟨f1, ef1⟩ : ∃ z, z = upd f0 (4 : Int32).toNatClampNeg (vp_nar .byte 32) := ⟨_, rfl⟩
  rw [← ef1] at hP hD
  have if1 : ∀ j, iv (f1 j) (-128) 127 := by rw [ef1]; exact iv_upd if0 (iv_byte 32) (by decide) (by decide) (by decide) (by decide)
  refine lv_aload_n hx hb dX12_say_11 rfl (lv_at hl 0 rfl) ?_
  refine lv_dup hx hb dX12_say_12 rfl ?_
  refine va_get (D := (dC, dI)) (ci := 12) (v := .int 4) (C := RX12) (T := TX12) (N := 72) hx hb hG inGX12 hown hK hP 0 rfl rfl 67 (by decide) (hG _ wd_1374) (fun _ h9 => h9) rfl dX12_say_13 ?_
  refine lv_iconst (v := 1) hx hb dX12_say_16 (by decide) ?_
  refine lv_iadd hx hb dX12_say_17 ?_
  refine lv_val (y := 5) (by decide +kernel) ?_
  refine va_put (D := (dC, dI)) (ci := 12) (v := .int 5) (ty := .int) (C := RX12) (T := TX12) (N := 72) hx hb hG inGX12 tyX12 tyX12_ok nmX12 hown hK hP hD hS 0 rfl rfl 67 (by decide) (hG _ wd_1374) (fun _ h9 => h9) rfl (by decide +kernel) rfl rfl (Nat.le_of_ble_eq_true rfl) dX12_say_18 (fun H locs hP hD hS => ?_)
  have hP : va_P (dC, dI) vwCl [(h0, .inr (12, [.int 0, .ref h1, .ref h2, .int 0, .int 0, .int 0, .int 0, .int 0, .int 0, .int 0, .int 0, .int 0, .int 0, .int 0, .int 0, .int 0, .int 0, .int 0, .ref h3, .ref h4, .ref h5, .ref h6, .int 0, .int 0, .int 0, .int 0, .int 0, .int 0, .int 0, .int 0, .ref h7, .int 0, .int 0, .int 0, .int 0, .ref h8, .ref h9, .int 0, .int 0, .long 0, .int 0, .int 0, .ref h10, .ref h11, .ref h12, .ref h13, .ref h14, .int 0, .int 0, .int 0, .int 0, .int 0, .int 0, .int 0, .int 0, .int 0, .ref h15, .ref h16, .int 0, .int 0, .int 0, .int 0, .int 0, .int 0, .int 0, .int 0, .ref h17, .int 5, .int 0, .int x0, .int x1, .int 0])), (h17, .inl (y0, 100, .inl f1))] H := hP
  have hD : va_D A [(h0, .inr (12, [.int 0, .ref h1, .ref h2, .int 0, .int 0, .int 0, .int 0, .int 0, .int 0, .int 0, .int 0, .int 0, .int 0, .int 0, .int 0, .int 0, .int 0, .int 0, .ref h3, .ref h4, .ref h5, .ref h6, .int 0, .int 0, .int 0, .int 0, .int 0, .int 0, .int 0, .int 0, .ref h7, .int 0, .int 0, .int 0, .int 0, .ref h8, .ref h9, .int 0, .int 0, .long 0, .int 0, .int 0, .ref h10, .ref h11, .ref h12, .ref h13, .ref h14, .int 0, .int 0, .int 0, .int 0, .int 0, .int 0, .int 0, .int 0, .int 0, .ref h15, .ref h16, .int 0, .int 0, .int 0, .int 0, .int 0, .int 0, .int 0, .int 0, .ref h17, .int 5, .int 0, .int x0, .int x1, .int 0])), (h17, .inl (y0, 100, .inl f1))] := hD
  have hP9 := hP.sub (ws' := [(h0, .inr (12, [.int 0, .ref h1, .ref h2, .int 0, .int 0, .int 0, .int 0, .int 0, .int 0, .int 0, .int 0, .int 0, .int 0, .int 0, .int 0, .int 0, .int 0, .int 0, .ref h3, .ref h4, .ref h5, .ref h6, .int 0, .int 0, .int 0, .int 0, .int 0, .int 0, .int 0, .int 0, .ref h7, .int 0, .int 0, .int 0, .int 0, .ref h8, .ref h9, .int 0, .int 0, .long 0, .int 0, .int 0, .ref h10, .ref h11, .ref h12, .ref h13, .ref h14, .int 0, .int 0, .int 0, .int 0, .int 0, .int 0, .int 0, .int 0, .int 0, .ref h15, .ref h16, .int 0, .int 0, .int 0, .int 0, .int 0, .int 0, .int 0, .int 0, .ref h17, .int 5, .int 0, .int x0, .int x1, .int 0])), (h17, .inl (y0, 100, .inl f1))]) [0, 1] rfl
  have hD9 := hD.sub (ws' := [(h0, .inr (12, [.int 0, .ref h1, .ref h2, .int 0, .int 0, .int 0, .int 0, .int 0, .int 0, .int 0, .int 0, .int 0, .int 0, .int 0, .int 0, .int 0, .int 0, .int 0, .ref h3, .ref h4, .ref h5, .ref h6, .int 0, .int 0, .int 0, .int 0, .int 0, .int 0, .int 0, .int 0, .ref h7, .int 0, .int 0, .int 0, .int 0, .ref h8, .ref h9, .int 0, .int 0, .long 0, .int 0, .int 0, .ref h10, .ref h11, .ref h12, .ref h13, .ref h14, .int 0, .int 0, .int 0, .int 0, .int 0, .int 0, .int 0, .int 0, .int 0, .ref h15, .ref h16, .int 0, .int 0, .int 0, .int 0, .int 0, .int 0, .int 0, .int 0, .ref h17, .int 5, .int 0, .int x0, .int x1, .int 0])), (h17, .inl (y0, 100, .inl f1))]) [0, 1] (by decide) rfl
  have hK9 := hK.sub (tys' := [(y0, .byte)]) [0] rfl
  exact W.vret hx hb hr (fun t ht hW => ⟨⟨f1, rfl, ⟨(fun j => iv_w (if1 j) (by decide) (by decide)), trivial⟩, by rw [ht]; exact hP9, va_K.moved hW.alike hK9, hD9⟩, hS.F ht⟩) hS.2.2 dX12_say_21
set_option maxHeartbeats 4000000 in
set_option maxRecDepth 100000 in
theorem cX12_say_6 (l : Launch) (dC : Nat → ClassId) (dI : Nat → Nat → Nat) (h0 h1 h2 h3 h4 h5 h6 h7 h8 h9 h10 h11 h12 h13 h14 h15 h16 h17 : Nat) (y0 : ClassId) (sz : Nat) (x0 x1 : Int32) (f0 : Nat → Int32) (ix0 : iv x0 0 65534) (ix1 : iv x1 2 65536) (if0 : ∀ j, iv (f0 j) (-128) 127) : Met l yX12_say (Cond.code yX12_say cX12_say 2 none :: lw_G) ({ frames := 0, cells := 0, slots := 0, locals := 0 }) (va_Pc [.ref h0, .int 48] (fun U => U.heap.size = sz ∧ va_P (dC, dI) vwCl [(h0, .inr (12, [.int 0, .ref h1, .ref h2, .int 0, .int 0, .int 0, .int 0, .int 0, .int 0, .int 0, .int 0, .int 0, .int 0, .int 0, .int 0, .int 0, .int 0, .int 0, .ref h3, .ref h4, .ref h5, .ref h6, .int 0, .int 0, .int 0, .int 0, .int 0, .int 0, .int 0, .int 0, .ref h7, .int 0, .int 0, .int 0, .int 0, .ref h8, .ref h9, .int 0, .int 0, .long 0, .int 0, .int 0, .ref h10, .ref h11, .ref h12, .ref h13, .ref h14, .int 0, .int 0, .int 0, .int 0, .int 0, .int 0, .int 0, .int 0, .int 0, .ref h15, .ref h16, .int 0, .int 0, .int 0, .int 0, .int 0, .int 0, .int 0, .int 0, .ref h17, .int 5, .int 0, .int x0, .int x1, .int 0])), (h17, .inl (y0, 100, .inl f0))] U.heap ∧ va_K (dC, dI) vwCl [(y0, .byte)] U ∧ va_D (fun _ => True) [(h0, .inr (12, [.int 0, .ref h1, .ref h2, .int 0, .int 0, .int 0, .int 0, .int 0, .int 0, .int 0, .int 0, .int 0, .int 0, .int 0, .int 0, .int 0, .int 0, .int 0, .ref h3, .ref h4, .ref h5, .ref h6, .int 0, .int 0, .int 0, .int 0, .int 0, .int 0, .int 0, .int 0, .ref h7, .int 0, .int 0, .int 0, .int 0, .ref h8, .ref h9, .int 0, .int 0, .long 0, .int 0, .int 0, .ref h10, .ref h11, .ref h12, .ref h13, .ref h14, .int 0, .int 0, .int 0, .int 0, .int 0, .int 0, .int 0, .int 0, .int 0, .ref h15, .ref h16, .int 0, .int 0, .int 0, .int 0, .int 0, .int 0, .int 0, .int 0, .ref h17, .int 5, .int 0, .int x0, .int x1, .int 0])), (h17, .inl (y0, 100, .inl f0))])) (va_Qv (fun (u : (Nat → Int32)) => (∀ j, iv (u j) (-128) 127) ∧ True) (fun (u : (Nat → Int32)) (t : State) => va_P (dC, dI) vwCl [(h0, .inr (12, [.int 0, .ref h1, .ref h2, .int 0, .int 0, .int 0, .int 0, .int 0, .int 0, .int 0, .int 0, .int 0, .int 0, .int 0, .int 0, .int 0, .int 0, .int 0, .ref h3, .ref h4, .ref h5, .ref h6, .int 0, .int 0, .int 0, .int 0, .int 0, .int 0, .int 0, .int 0, .ref h7, .int 0, .int 0, .int 0, .int 0, .ref h8, .ref h9, .int 0, .int 0, .long 0, .int 0, .int 0, .ref h10, .ref h11, .ref h12, .ref h13, .ref h14, .int 0, .int 0, .int 0, .int 0, .int 0, .int 0, .int 0, .int 0, .int 0, .ref h15, .ref h16, .int 0, .int 0, .int 0, .int 0, .int 0, .int 0, .int 0, .int 0, .ref h17, .int 6, .int 0, .int x0, .int x1, .int 0])), (h17, .inl (y0, 100, .inl u))] t.heap ∧ va_K (dC, dI) vwCl [(y0, .byte)] t ∧ va_D (va_A [(h0, .inr (12, [.int 0, .ref h1, .ref h2, .int 0, .int 0, .int 0, .int 0, .int 0, .int 0, .int 0, .int 0, .int 0, .int 0, .int 0, .int 0, .int 0, .int 0, .int 0, .ref h3, .ref h4, .ref h5, .ref h6, .int 0, .int 0, .int 0, .int 0, .int 0, .int 0, .int 0, .int 0, .ref h7, .int 0, .int 0, .int 0, .int 0, .ref h8, .ref h9, .int 0, .int 0, .long 0, .int 0, .int 0, .ref h10, .ref h11, .ref h12, .ref h13, .ref h14, .int 0, .int 0, .int 0, .int 0, .int 0, .int 0, .int 0, .int 0, .int 0, .ref h15, .ref h16, .int 0, .int 0, .int 0, .int 0, .int 0, .int 0, .int 0, .int 0, .ref h17, .int 5, .int 0, .int x0, .int x1, .int 0])), (h17, .inl (y0, 100, .inl f0))] sz) [(h0, .inr (12, [.int 0, .ref h1, .ref h2, .int 0, .int 0, .int 0, .int 0, .int 0, .int 0, .int 0, .int 0, .int 0, .int 0, .int 0, .int 0, .int 0, .int 0, .int 0, .ref h3, .ref h4, .ref h5, .ref h6, .int 0, .int 0, .int 0, .int 0, .int 0, .int 0, .int 0, .int 0, .ref h7, .int 0, .int 0, .int 0, .int 0, .ref h8, .ref h9, .int 0, .int 0, .long 0, .int 0, .int 0, .ref h10, .ref h11, .ref h12, .ref h13, .ref h14, .int 0, .int 0, .int 0, .int 0, .int 0, .int 0, .int 0, .int 0, .int 0, .ref h15, .ref h16, .int 0, .int 0, .int 0, .int 0, .int 0, .int 0, .int 0, .int 0, .ref h17, .int 6, .int 0, .int x0, .int x1, .int 0])), (h17, .inl (y0, 100, .inl u))]) (va_A [(h0, .inr (12, [.int 0, .ref h1, .ref h2, .int 0, .int 0, .int 0, .int 0, .int 0, .int 0, .int 0, .int 0, .int 0, .int 0, .int 0, .int 0, .int 0, .int 0, .int 0, .ref h3, .ref h4, .ref h5, .ref h6, .int 0, .int 0, .int 0, .int 0, .int 0, .int 0, .int 0, .int 0, .ref h7, .int 0, .int 0, .int 0, .int 0, .ref h8, .ref h9, .int 0, .int 0, .long 0, .int 0, .int 0, .ref h10, .ref h11, .ref h12, .ref h13, .ref h14, .int 0, .int 0, .int 0, .int 0, .int 0, .int 0, .int 0, .int 0, .int 0, .ref h15, .ref h16, .int 0, .int 0, .int 0, .int 0, .int 0, .int 0, .int 0, .int 0, .ref h17, .int 5, .int 0, .int x0, .int x1, .int 0])), (h17, .inl (y0, 100, .inl f0))] sz)) 0 0 (va_A [(h0, .inr (12, [.int 0, .ref h1, .ref h2, .int 0, .int 0, .int 0, .int 0, .int 0, .int 0, .int 0, .int 0, .int 0, .int 0, .int 0, .int 0, .int 0, .int 0, .int 0, .ref h3, .ref h4, .ref h5, .ref h6, .int 0, .int 0, .int 0, .int 0, .int 0, .int 0, .int 0, .int 0, .ref h7, .int 0, .int 0, .int 0, .int 0, .ref h8, .ref h9, .int 0, .int 0, .long 0, .int 0, .int 0, .ref h10, .ref h11, .ref h12, .ref h13, .ref h14, .int 0, .int 0, .int 0, .int 0, .int 0, .int 0, .int 0, .int 0, .int 0, .ref h15, .ref h16, .int 0, .int 0, .int 0, .int 0, .int 0, .int 0, .int 0, .int 0, .ref h17, .int 5, .int 0, .int x0, .int x1, .int 0])), (h17, .inl (y0, 100, .inl f0))] sz) := by
  refine Met.ofW (cc := cX12_say) (maxL := 2) (ret := none) (by decide) rfl ?_
  intro p e s m args below meth c s₁ B hml hv
  obtain ⟨rfl, hsz, hP, hK, hD0⟩ := hv
  have hx := B.exec
  have hb := B.bytes
  have hr := B.returns
  have hts0 := atoms_spec (ws := Cond.code yX12_say cX12_say 2 none :: lw_G) B.pre
  have hG : ∀ w ∈ lw_G, w.before _ s = true := fun w h => hts0 w (List.mem_cons_of_mem _ h)
  have hown : s.vm.findClass RX12 = some m.cls := findClass_of_methodNamed B.named
  have hlocks := B.notSynchronized
  subst hsz
  have hD := hD0.self (sz := s.heap.size)
  generalize hAe : va_A [(h0, .inr (12, [.int 0, .ref h1, .ref h2, .int 0, .int 0, .int 0, .int 0, .int 0, .int 0, .int 0, .int 0, .int 0, .int 0, .int 0, .int 0, .int 0, .int 0, .int 0, .ref h3, .ref h4, .ref h5, .ref h6, .int 0, .int 0, .int 0, .int 0, .int 0, .int 0, .int 0, .int 0, .ref h7, .int 0, .int 0, .int 0, .int 0, .ref h8, .ref h9, .int 0, .int 0, .long 0, .int 0, .int 0, .ref h10, .ref h11, .ref h12, .ref h13, .ref h14, .int 0, .int 0, .int 0, .int 0, .int 0, .int 0, .int 0, .int 0, .int 0, .ref h15, .ref h16, .int 0, .int 0, .int 0, .int 0, .int 0, .int 0, .int 0, .int 0, .ref h17, .int 5, .int 0, .int x0, .int x1, .int 0])), (h17, .inl (y0, 100, .inl f0))] s.heap.size = A at hD ⊢
  have hA : ∀ q : Nat, s.heap.size ≤ q → A q := fun q h => by rw [← hAe]; exact Or.inr h
  have hS : va_S A s.heap s.heap [] := va_S.rf
  have hP : va_P (dC, dI) vwCl [(h0, .inr (12, [.int 0, .ref h1, .ref h2, .int 0, .int 0, .int 0, .int 0, .int 0, .int 0, .int 0, .int 0, .int 0, .int 0, .int 0, .int 0, .int 0, .int 0, .int 0, .ref h3, .ref h4, .ref h5, .ref h6, .int 0, .int 0, .int 0, .int 0, .int 0, .int 0, .int 0, .int 0, .ref h7, .int 0, .int 0, .int 0, .int 0, .ref h8, .ref h9, .int 0, .int 0, .long 0, .int 0, .int 0, .ref h10, .ref h11, .ref h12, .ref h13, .ref h14, .int 0, .int 0, .int 0, .int 0, .int 0, .int 0, .int 0, .int 0, .int 0, .ref h15, .ref h16, .int 0, .int 0, .int 0, .int 0, .int 0, .int 0, .int 0, .int 0, .ref h17, .int 5, .int 0, .int x0, .int x1, .int 0])), (h17, .inl (y0, 100, .inl f0))] s.heap := hP
  have hl := lv_entry ([.ref h0, .int 48]) (n := 2) (Nat.le_of_ble_eq_true rfl)
  rw [lg_entry_eq]
  generalize (lg_sl ([.ref h0, .int 48]) ++ List.replicate (2 - (lg_sl ([.ref h0, .int 48])).length) Slot.unset).toArray = ls at hl ⊢
  have hl : lv_has ls 2 [(0, .ref h0), (1, .int 48)] := hl
  refine lv_aload_n hx hb dX12_say_0 rfl (lv_at hl 0 rfl) ?_
  refine va_get (D := (dC, dI)) (ci := 12) (v := .ref h17) (C := RX12) (T := TX12) (N := 72) hx hb hG inGX12 hown hK hP 0 rfl rfl 66 (by decide) (hG _ wd_1373) (fun _ h9 => h9) rfl dX12_say_1 ?_
  refine lv_aload_n hx hb dX12_say_4 rfl (lv_at hl 0 rfl) ?_
  refine va_get (D := (dC, dI)) (ci := 12) (v := .int 5) (C := RX12) (T := TX12) (N := 72) hx hb hG inGX12 hown hK hP 0 rfl rfl 67 (by decide) (hG _ wd_1374) (fun _ h9 => h9) rfl dX12_say_5 ?_
  refine lv_iload_n hx hb dX12_say_8 rfl (lv_at hl 1 rfl) ?_
  refine lv_i2b (v := _) hx hb dX12_say_9 rfl ?_
  refine lv_val (y := 48) (by decide +kernel) ?_
  refine va_bast hx hb hK hP hD hS 1 0 rfl rfl (iv_in (by decide : iv 5 5 5) (by decide) (by decide) : vp_in 5 100) dX12_say_10 (fun H locs hP hD hS => ?_)
  have hP : va_P (dC, dI) vwCl [(h0, .inr (12, [.int 0, .ref h1, .ref h2, .int 0, .int 0, .int 0, .int 0, .int 0, .int 0, .int 0, .int 0, .int 0, .int 0, .int 0, .int 0, .int 0, .int 0, .int 0, .ref h3, .ref h4, .ref h5, .ref h6, .int 0, .int 0, .int 0, .int 0, .int 0, .int 0, .int 0, .int 0, .ref h7, .int 0, .int 0, .int 0, .int 0, .ref h8, .ref h9, .int 0, .int 0, .long 0, .int 0, .int 0, .ref h10, .ref h11, .ref h12, .ref h13, .ref h14, .int 0, .int 0, .int 0, .int 0, .int 0, .int 0, .int 0, .int 0, .int 0, .ref h15, .ref h16, .int 0, .int 0, .int 0, .int 0, .int 0, .int 0, .int 0, .int 0, .ref h17, .int 5, .int 0, .int x0, .int x1, .int 0])), (h17, .inl (y0, 100, .inl (upd f0 (5 : Int32).toNatClampNeg (vp_nar .byte 48))))] H := hP
  have hD : va_D A [(h0, .inr (12, [.int 0, .ref h1, .ref h2, .int 0, .int 0, .int 0, .int 0, .int 0, .int 0, .int 0, .int 0, .int 0, .int 0, .int 0, .int 0, .int 0, .int 0, .int 0, .ref h3, .ref h4, .ref h5, .ref h6, .int 0, .int 0, .int 0, .int 0, .int 0, .int 0, .int 0, .int 0, .ref h7, .int 0, .int 0, .int 0, .int 0, .ref h8, .ref h9, .int 0, .int 0, .long 0, .int 0, .int 0, .ref h10, .ref h11, .ref h12, .ref h13, .ref h14, .int 0, .int 0, .int 0, .int 0, .int 0, .int 0, .int 0, .int 0, .int 0, .ref h15, .ref h16, .int 0, .int 0, .int 0, .int 0, .int 0, .int 0, .int 0, .int 0, .ref h17, .int 5, .int 0, .int x0, .int x1, .int 0])), (h17, .inl (y0, 100, .inl (upd f0 (5 : Int32).toNatClampNeg (vp_nar .byte 48))))] := hD
  obtain ⟨f1, ef1⟩ : ∃ z, z = upd f0 (5 : Int32).toNatClampNeg (vp_nar .byte 48) := ⟨_, rfl⟩
  rw [← ef1] at hP hD
  have if1 : ∀ j, iv (f1 j) (-128) 127 := by rw [ef1]; exact iv_upd if0 (iv_byte 48) (by decide) (by decide) (by decide) (by decide)
  refine lv_aload_n hx hb dX12_say_11 rfl (lv_at hl 0 rfl) ?_
  refine lv_dup hx hb dX12_say_12 rfl ?_
  refine va_get (D := (dC, dI)) (ci := 12) (v := .int 5) (C := RX12) (T := TX12) (N := 72) hx hb hG inGX12 hown hK hP 0 rfl rfl 67 (by decide) (hG _ wd_1374) (fun _ h9 => h9) rfl dX12_say_13 ?_
  refine lv_iconst (v := 1) hx hb dX12_say_16 (by decide) ?_
  refine lv_iadd hx hb dX12_say_17 ?_
  refine lv_val (y := 6) (by decide +kernel) ?_
  refine va_put (D := (dC, dI)) (ci := 12) (v := .int 6) (ty := .int) (C := RX12) (T := TX12) (N := 72) hx hb hG inGX12 tyX12 tyX12_ok nmX12 hown hK hP hD hS 0 rfl rfl 67 (by decide) (hG _ wd_1374) (fun _ h9 => h9) rfl (by decide +kernel) rfl rfl (Nat.le_of_ble_eq_true rfl) dX12_say_18 (fun H locs hP hD hS => ?_)
  have hP : va_P (dC, dI) vwCl [(h0, .inr (12, [.int 0, .ref h1, .ref h2, .int 0, .int 0, .int 0, .int 0, .int 0, .int 0, .int 0, .int 0, .int 0, .int 0, .int 0, .int 0, .int 0, .int 0, .int 0, .ref h3, .ref h4, .ref h5, .ref h6, .int 0, .int 0, .int 0, .int 0, .int 0, .int 0, .int 0, .int 0, .ref h7, .int 0, .int 0, .int 0, .int 0, .ref h8, .ref h9, .int 0, .int 0, .long 0, .int 0, .int 0, .ref h10, .ref h11, .ref h12, .ref h13, .ref h14, .int 0, .int 0, .int 0, .int 0, .int 0, .int 0, .int 0, .int 0, .int 0, .ref h15, .ref h16, .int 0, .int 0, .int 0, .int 0, .int 0, .int 0, .int 0, .int 0, .ref h17, .int 6, .int 0, .int x0, .int x1, .int 0])), (h17, .inl (y0, 100, .inl f1))] H := hP
  have hD : va_D A [(h0, .inr (12, [.int 0, .ref h1, .ref h2, .int 0, .int 0, .int 0, .int 0, .int 0, .int 0, .int 0, .int 0, .int 0, .int 0, .int 0, .int 0, .int 0, .int 0, .int 0, .ref h3, .ref h4, .ref h5, .ref h6, .int 0, .int 0, .int 0, .int 0, .int 0, .int 0, .int 0, .int 0, .ref h7, .int 0, .int 0, .int 0, .int 0, .ref h8, .ref h9, .int 0, .int 0, .long 0, .int 0, .int 0, .ref h10, .ref h11, .ref h12, .ref h13, .ref h14, .int 0, .int 0, .int 0, .int 0, .int 0, .int 0, .int 0, .int 0, .int 0, .ref h15, .ref h16, .int 0, .int 0, .int 0, .int 0, .int 0, .int 0, .int 0, .int 0, .ref h17, .int 6, .int 0, .int x0, .int x1, .int 0])), (h17, .inl (y0, 100, .inl f1))] := hD
  have hP9 := hP.sub (ws' := [(h0, .inr (12, [.int 0, .ref h1, .ref h2, .int 0, .int 0, .int 0, .int 0, .int 0, .int 0, .int 0, .int 0, .int 0, .int 0, .int 0, .int 0, .int 0, .int 0, .int 0, .ref h3, .ref h4, .ref h5, .ref h6, .int 0, .int 0, .int 0, .int 0, .int 0, .int 0, .int 0, .int 0, .ref h7, .int 0, .int 0, .int 0, .int 0, .ref h8, .ref h9, .int 0, .int 0, .long 0, .int 0, .int 0, .ref h10, .ref h11, .ref h12, .ref h13, .ref h14, .int 0, .int 0, .int 0, .int 0, .int 0, .int 0, .int 0, .int 0, .int 0, .ref h15, .ref h16, .int 0, .int 0, .int 0, .int 0, .int 0, .int 0, .int 0, .int 0, .ref h17, .int 6, .int 0, .int x0, .int x1, .int 0])), (h17, .inl (y0, 100, .inl f1))]) [0, 1] rfl
  have hD9 := hD.sub (ws' := [(h0, .inr (12, [.int 0, .ref h1, .ref h2, .int 0, .int 0, .int 0, .int 0, .int 0, .int 0, .int 0, .int 0, .int 0, .int 0, .int 0, .int 0, .int 0, .int 0, .int 0, .ref h3, .ref h4, .ref h5, .ref h6, .int 0, .int 0, .int 0, .int 0, .int 0, .int 0, .int 0, .int 0, .ref h7, .int 0, .int 0, .int 0, .int 0, .ref h8, .ref h9, .int 0, .int 0, .long 0, .int 0, .int 0, .ref h10, .ref h11, .ref h12, .ref h13, .ref h14, .int 0, .int 0, .int 0, .int 0, .int 0, .int 0, .int 0, .int 0, .int 0, .ref h15, .ref h16, .int 0, .int 0, .int 0, .int 0, .int 0, .int 0, .int 0, .int 0, .ref h17, .int 6, .int 0, .int x0, .int x1, .int 0])), (h17, .inl (y0, 100, .inl f1))]) [0, 1] (by decide) rfl
  have hK9 := hK.sub (tys' := [(y0, .byte)]) [0] rfl
  exact W.vret hx hb hr (fun t ht hW => ⟨⟨f1, rfl, ⟨(fun j => iv_w (if1 j) (by decide) (by decide)), trivial⟩, by rw [ht]; exact hP9, va_K.moved hW.alike hK9, hD9⟩, hS.F ht⟩) hS.2.2 dX12_say_21
