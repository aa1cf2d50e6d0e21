set_option maxHeartbeats 4000000 in
set_option maxRecDepth 100000 in
theorem cX11_putNumber_1 (l : Launch) (dC : Nat → ClassId) (dI : Nat → Nat → Nat) (h0 h1 h2 h3 h4 h5 : Nat) (y0 : ClassId) (sz : Nat) (x0 : Int32) : Met l yX11_putNumber (Cond.code yX11_putNumber cX11_putNumber 3 none :: lw_G) ({ frames := 0, cells := 0, slots := 0, locals := 0 }) (va_Pc [.ref h0, .int x0] (fun U => U.heap.size = sz ∧ va_P (dC, dI) vwCl [(h0, .inr (11, [.ref h1, .ref h2, .ref h3, .ref h4, .ref h5, .int 0, .int 0])), (h1, .inl (y0, 2600, .inl (fun _ => 0)))] U.heap ∧ va_K (dC, dI) vwCl [(y0, .int)] U ∧ va_D (fun _ => True) [(h0, .inr (11, [.ref h1, .ref h2, .ref h3, .ref h4, .ref h5, .int 0, .int 0])), (h1, .inl (y0, 2600, .inl (fun _ => 0)))])) (va_Qv (fun (u : (Nat → Int32)) => (∀ j, iv (u j) 0 255) ∧ True) (fun (u : (Nat → Int32)) (t : State) => va_P (dC, dI) vwCl [(h0, .inr (11, [.ref h1, .ref h2, .ref h3, .ref h4, .ref h5, .int 4, .int 0])), (h1, .inl (y0, 2600, .inl u))] t.heap ∧ va_K (dC, dI) vwCl [(y0, .int)] t ∧ va_D (va_A [(h0, .inr (11, [.ref h1, .ref h2, .ref h3, .ref h4, .ref h5, .int 0, .int 0])), (h1, .inl (y0, 2600, .inl (fun _ => 0)))] sz) [(h0, .inr (11, [.ref h1, .ref h2, .ref h3, .ref h4, .ref h5, .int 4, .int 0])), (h1, .inl (y0, 2600, .inl u))]) (va_A [(h0, .inr (11, [.ref h1, .ref h2, .ref h3, .ref h4, .ref h5, .int 0, .int 0])), (h1, .inl (y0, 2600, .inl (fun _ => 0)))] sz)) 0 0 (va_A [(h0, .inr (11, [.ref h1, .ref h2, .ref h3, .ref h4, .ref h5, .int 0, .int 0])), (h1, .inl (y0, 2600, .inl (fun _ => 0)))] sz) := by
  refine Met.ofW (cc := cX11_putNumber) (maxL := 3) (ret := none) (by decide) rfl ?_
  intro p e s m args below meth c s₁ B hml hv
  obtain ⟨rfl, hsz, hP, hK, hD0⟩ := hv
  have hx := B.exec
  have hb := B.bytes
  have hr := B.returns
  have hts0 := atoms_spec (ws := Cond.code yX11_putNumber cX11_putNumber 3 none :: lw_G) B.pre
  have hG : ∀ w ∈ lw_G, w.before _ s = true := fun w h => hts0 w (List.mem_cons_of_mem _ h)
  have hown : s.vm.findClass RX11 = some m.cls := findClass_of_methodNamed B.named
  have hlocks := B.notSynchronized
  subst hsz
  have hD := hD0.self (sz := s.heap.size)
  generalize hAe : va_A [(h0, .inr (11, [.ref h1, .ref h2, .ref h3, .ref h4, .ref h5, .int 0, .int 0])), (h1, .inl (y0, 2600, .inl (fun _ => 0)))] s.heap.size = A at hD ⊢
  have hA : ∀ q : Nat, s.heap.size ≤ q → A q := fun q h => by rw [← hAe]; exact Or.inr h
  have hS : va_S A s.heap s.heap [] := va_S.rf
  have hP : va_P (dC, dI) vwCl [(h0, .inr (11, [.ref h1, .ref h2, .ref h3, .ref h4, .ref h5, .int 0, .int 0])), (h1, .inl (y0, 2600, .inl (fun _ => 0)))] s.heap := hP
  have hl := lv_entry ([.ref h0, .int x0]) (n := 3) (Nat.le_of_ble_eq_true rfl)
  rw [lg_entry_eq]
  generalize (lg_sl ([.ref h0, .int x0]) ++ List.replicate (3 - (lg_sl ([.ref h0, .int x0])).length) Slot.unset).toArray = ls at hl ⊢
  have hl : lv_has ls 3 [(0, .ref h0), (1, .int x0)] := hl
  refine lv_bipush (v := 24) hx hb dX11_putNumber_0 (by decide) ?_
  refine lv_istore_n (lv' := [(2, .int 24), (0, .ref h0), (1, .int x0)]) hx hb dX11_putNumber_2 rfl hl (by decide) rfl (fun ls hl => ?_)
  refine lv_iload_n hx hb dX11_putNumber_3 rfl (lv_at hl 0 rfl) ?_
  refine lv_if_lt (tgt := 49) hx hb dX11_putNumber_4 (by decide) (fun c => absurd c (by decide)) (fun _ => ?_)
  refine lv_aload_n hx hb dX11_putNumber_7 rfl (lv_at hl 1 rfl) ?_
  refine va_get (D := (dC, dI)) (ci := 11) (v := .int 0) (C := RX11) (T := TX11) (N := 7) hx hb hG inGX11 hown hK hP 0 rfl rfl 5 (by decide) (hG _ wd_400) (fun _ h9 => h9) rfl dX11_putNumber_8 ?_
  refine lv_sipush (v := 2600) hx hb dX11_putNumber_11 (by decide) ?_
  refine lv_icmp_ge (tgt := 43) hx hb dX11_putNumber_14 (by decide) (fun c => absurd c (by decide)) (fun _ => ?_)
  refine lv_aload_n hx hb dX11_putNumber_17 rfl (lv_at hl 1 rfl) ?_
  refine va_get (D := (dC, dI)) (ci := 11) (v := .ref h1) (C := RX11) (T := TX11) (N := 7) hx hb hG inGX11 hown hK hP 0 rfl rfl 0 (by decide) (hG _ wd_395) (fun _ h9 => h9) rfl dX11_putNumber_18 ?_
  refine lv_aload_n hx hb dX11_putNumber_21 rfl (lv_at hl 1 rfl) ?_
  refine va_get (D := (dC, dI)) (ci := 11) (v := .int 0) (C := RX11) (T := TX11) (N := 7) hx hb hG inGX11 hown hK hP 0 rfl rfl 5 (by decide) (hG _ wd_400) (fun _ h9 => h9) rfl dX11_putNumber_22 ?_
  refine lv_iload_n hx hb dX11_putNumber_25 rfl (lv_at hl 2 rfl) ?_
  refine lv_iload_n hx hb dX11_putNumber_26 rfl (lv_at hl 0 rfl) ?_
  refine lv_iushr (v := _) hx hb dX11_putNumber_27 rfl ?_
  refine lv_topi (fun v1 ev1 => ?_)
  refine lv_sipush (v := 255) hx hb dX11_putNumber_28 (by decide) ?_
  refine lv_iand hx hb dX11_putNumber_31 ?_
  refine lv_topi (fun v2 ev2 => ?_)
  have iv2 : iv v2 0 255 := iv_eq ev2 (iv_and (x := v1) (iv_w (by decide : iv 255 255 255) (by decide) (by decide) : iv 255 0 255))
  refine va_iast hx hb hK hP hD hS 1 0 rfl rfl (iv_in (by decide : iv 0 0 0) (by decide) (by decide) : vp_in 0 2600) dX11_putNumber_32 (fun H locs hP hD hS => ?_)
  have hP : va_P (dC, dI) vwCl [(h0, .inr (11, [.ref h1, .ref h2, .ref h3, .ref h4, .ref h5, .int 0, .int 0])), (h1, .inl (y0, 2600, .inl (upd (fun _ => 0) (0 : Int32).toNatClampNeg v2)))] H := hP
  have hD : va_D A [(h0, .inr (11, [.ref h1, .ref h2, .ref h3, .ref h4, .ref h5, .int 0, .int 0])), (h1, .inl (y0, 2600, .inl (upd (fun _ => 0) (0 : Int32).toNatClampNeg v2)))] := hD
  obtain ⟨f3, ef3⟩ : ∃ z, z = upd (fun _ => 0) (0 : Int32).toNatClampNeg v2 := ⟨_, rfl⟩
  rw [← ef3] at hP hD
  have if3 : ∀ j, iv (f3 j) 0 255 := by rw [ef3]; exact iv_upd (fun _ => (by decide : iv 0 0 0)) iv2 (by decide) (by decide) (by decide) (by decide)
  refine lv_aload_n hx hb dX11_putNumber_33 rfl (lv_at hl 1 rfl) ?_
  refine lv_dup hx hb dX11_putNumber_34 rfl ?_
  refine va_get (D := (dC, dI)) (ci := 11) (v := .int 0) (C := RX11) (T := TX11) (N := 7) hx hb hG inGX11 hown hK hP 0 rfl rfl 5 (by decide) (hG _ wd_400) (fun _ h9 => h9) rfl dX11_putNumber_35 ?_
  refine lv_iconst (v := 1) hx hb dX11_putNumber_38 (by decide) ?_
  refine lv_iadd hx hb dX11_putNumber_39 ?_
  refine lv_val (y := 1) (by decide +kernel) ?_
  refine va_put (D := (dC, dI)) (ci := 11) (v := .int 1) (ty := .int) (C := RX11) (T := TX11) (N := 7) hx hb hG inGX11 tyX11 tyX11_ok nmX11 hown hK hP hD hS 0 rfl rfl 5 (by decide) (hG _ wd_400) (fun _ h9 => h9) rfl (by decide +kernel) rfl rfl (Nat.le_of_ble_eq_true rfl) dX11_putNumber_40 (fun H locs hP hD hS => ?_)
  have hP : va_P (dC, dI) vwCl [(h0, .inr (11, [.ref h1, .ref h2, .ref h3, .ref h4, .ref h5, .int 1, .int 0])), (h1, .inl (y0, 2600, .inl f3))] H := hP
  have hD : va_D A [(h0, .inr (11, [.ref h1, .ref h2, .ref h3, .ref h4, .ref h5, .int 1, .int 0])), (h1, .inl (y0, 2600, .inl f3))] := hD
  refine lv_iinc (v := 16) (lv' := [(2, .int 16), (0, .ref h0), (1, .int x0)]) hx hb dX11_putNumber_43 hl (k := 0) rfl (by decide) (by decide) rfl (fun ls hl => ?_)
  refine lv_goto (tgt := 3) hx hb dX11_putNumber_46 (by decide) ?_
  refine lv_iload_n hx hb dX11_putNumber_3 rfl (lv_at hl 0 rfl) ?_
  refine lv_if_lt (tgt := 49) hx hb dX11_putNumber_4 (by decide) (fun c => absurd c (by decide)) (fun _ => ?_)
  refine lv_aload_n hx hb dX11_putNumber_7 rfl (lv_at hl 1 rfl) ?_
  refine va_get (D := (dC, dI)) (ci := 11) (v := .int 1) (C := RX11) (T := TX11) (N := 7) hx hb hG inGX11 hown hK hP 0 rfl rfl 5 (by decide) (hG _ wd_400) (fun _ h9 => h9) rfl dX11_putNumber_8 ?_
  refine lv_sipush (v := 2600) hx hb dX11_putNumber_11 (by decide) ?_
  refine lv_icmp_ge (tgt := 43) hx hb dX11_putNumber_14 (by decide) (fun c => absurd c (by decide)) (fun _ => ?_)
  refine lv_aload_n hx hb dX11_putNumber_17 rfl (lv_at hl 1 rfl) ?_
  refine va_get (D := (dC, dI)) (ci := 11) (v := .ref h1) (C := RX11) (T := TX11) (N := 7) hx hb hG inGX11 hown hK hP 0 rfl rfl 0 (by decide) (hG _ wd_395) (fun _ h9 => h9) rfl dX11_putNumber_18 ?_
  refine lv_aload_n hx hb dX11_putNumber_21 rfl (lv_at hl 1 rfl) ?_
  refine va_get (D := (dC, dI)) (ci := 11) (v := .int 1) (C := RX11) (T := TX11) (N := 7) hx hb hG inGX11 hown hK hP 0 rfl rfl 5 (by decide) (hG _ wd_400) (fun _ h9 => h9) rfl dX11_putNumber_22 ?_
  refine lv_iload_n hx hb dX11_putNumber_25 rfl (lv_at hl 2 rfl) ?_
  refine lv_iload_n hx hb dX11_putNumber_26 rfl (lv_at hl 0 rfl) ?_
  refine lv_iushr (v := _) hx hb dX11_putNumber_27 rfl ?_
  refine lv_topi (fun v4 ev4 => ?_)
  refine lv_sipush (v := 255) hx hb dX11_putNumber_28 (by decide) ?_
  refine lv_iand hx hb dX11_putNumber_31 ?_
  refine lv_topi (fun v5 ev5 => ?_)
  have iv5 : iv v5 0 255 := iv_eq ev5 (iv_and (x := v4) (iv_w (by decide : iv 255 255 255) (by decide) (by decide) : iv 255 0 255))
  refine va_iast hx hb hK hP hD hS 1 0 rfl rfl (iv_in (by decide : iv 1 1 1) (by decide) (by decide) : vp_in 1 2600) dX11_putNumber_32 (fun H locs hP hD hS => ?_)
  have hP : va_P (dC, dI) vwCl [(h0, .inr (11, [.ref h1, .ref h2, .ref h3, .ref h4, .ref h5, .int 1, .int 0])), (h1, .inl (y0, 2600, .inl (upd f3 (1 : Int32).toNatClampNeg v5)))] H := hP
  have hD : va_D A [(h0, .inr (11, [.ref h1, .ref h2, .ref h3, .ref h4, .ref h5, .int 1, .int 0])), (h1, .inl (y0, 2600, .inl (upd f3 (1 : Int32).toNatClampNeg v5)))] := hD
  obtain ⟨f6, ef6⟩ : ∃ z, z = upd f3 (1 : Int32).toNatClampNeg v5 := ⟨_, rfl⟩
  rw [← ef6] at hP hD
  have if6 : ∀ j, iv (f6 j) 0 255 := by rw [ef6]; exact iv_upd if3 iv5 (by decide) (by decide) (by decide) (by decide)
  refine lv_aload_n hx hb dX11_putNumber_33 rfl (lv_at hl 1 rfl) ?_
  refine lv_dup hx hb dX11_putNumber_34 rfl ?_
  refine va_get (D := (dC, dI)) (ci := 11) (v := .int 1) (C := RX11) (T := TX11) (N := 7) hx hb hG inGX11 hown hK hP 0 rfl rfl 5 (by decide) (hG _ wd_400) (fun _ h9 => h9) rfl dX11_putNumber_35 ?_
  refine lv_iconst (v := 1) hx hb dX11_putNumber_38 (by decide) ?_
  refine lv_iadd hx hb dX11_putNumber_39 ?_
  refine lv_val (y := 2) (by decide +kernel) ?_
  refine va_put (D := (dC, dI)) (ci := 11) (v := .int 2) (ty := .int) (C := RX11) (T := TX11) (N := 7) hx hb hG inGX11 tyX11 tyX11_ok nmX11 hown hK hP hD hS 0 rfl rfl 5 (by decide) (hG _ wd_400) (fun _ h9 => h9) rfl (by decide +kernel) rfl rfl (Nat.le_of_ble_eq_true rfl) dX11_putNumber_40 (fun H locs hP hD hS => ?_)
  have hP : va_P (dC, dI) vwCl [(h0, .inr (11, [.ref h1, .ref h2, .ref h3, .ref h4, .ref h5, .int 2, .int 0])), (h1, .inl (y0, 2600, .inl f6))] H := hP
  have hD : va_D A [(h0, .inr (11, [.ref h1, .ref h2, .ref h3, .ref h4, .ref h5, .int 2, .int 0])), (h1, .inl (y0, 2600, .inl f6))] := hD
  refine lv_iinc (v := 8) (lv' := [(2, .int 8), (0, .ref h0), (1, .int x0)]) hx hb dX11_putNumber_43 hl (k := 0) rfl (by decide) (by decide) rfl (fun ls hl => ?_)
  refine lv_goto (tgt := 3) hx hb dX11_putNumber_46 (by decide) ?_
  refine lv_iload_n hx hb dX11_putNumber_3 rfl (lv_at hl 0 rfl) ?_
  refine lv_if_lt (tgt := 49) hx hb dX11_putNumber_4 (by decide) (fun c => absurd c (by decide)) (fun _ => ?_)
  refine lv_aload_n hx hb dX11_putNumber_7 rfl (lv_at hl 1 rfl) ?_
  refine va_get (D := (dC, dI)) (ci := 11) (v := .int 2) (C := RX11) (T := TX11) (N := 7) hx hb hG inGX11 hown hK hP 0 rfl rfl 5 (by decide) (hG _ wd_400) (fun _ h9 => h9) rfl dX11_putNumber_8 ?_
  refine lv_sipush (v := 2600) hx hb dX11_putNumber_11 (by decide) ?_
  refine lv_icmp_ge (tgt := 43) hx hb dX11_putNumber_14 (by decide) (fun c => absurd c (by decide)) (fun _ => ?_)
  refine lv_aload_n hx hb dX11_putNumber_17 rfl (lv_at hl 1 rfl) ?_
  refine va_get (D := (dC, dI)) (ci := 11) (v := .ref h1) (C := RX11) (T := TX11) (N := 7) hx hb hG inGX11 hown hK hP 0 rfl rfl 0 (by decide) (hG _ wd_395) (fun _ h9 => h9) rfl dX11_putNumber_18 ?_
  refine lv_aload_n hx hb dX11_putNumber_21 rfl (lv_at hl 1 rfl) ?_
  refine va_get (D := (dC, dI)) (ci := 11) (v := .int 2) (C := RX11) (T := TX11) (N := 7) hx hb hG inGX11 hown hK hP 0 rfl rfl 5 (by decide) (hG _ wd_400) (fun _ h9 => h9) rfl dX11_putNumber_22 ?_
  refine lv_iload_n hx hb dX11_putNumber_25 rfl (lv_at hl 2 rfl) ?_
  refine lv_iload_n hx hb dX11_putNumber_26 rfl (lv_at hl 0 rfl) ?_
  refine lv_iushr (v := _) hx hb dX11_putNumber_27 rfl ?_
  refine lv_topi (fun v7 ev7 => ?_)
  refine lv_sipush (v := 255) hx hb dX11_putNumber_28 (by decide) ?_
  refine lv_iand hx hb dX11_putNumber_31 ?_
  refine lv_topi (fun v8 ev8 => ?_)
  have iv8 : iv v8 0 255 := iv_eq ev8 (iv_and (x := v7) (iv_w (by decide : iv 255 255 255) (by decide) (by decide) : iv 255 0 255))
  refine va_iast hx hb hK hP hD hS 1 0 rfl rfl (iv_in (by decide : iv 2 2 2) (by decide) (by decide) : vp_in 2 2600) dX11_putNumber_32 (fun H locs hP hD hS => ?_)
  have hP : va_P (dC, dI) vwCl [(h0, .inr (11, [.ref h1, .ref h2, .ref h3, .ref h4, .ref h5, .int 2, .int 0])), (h1, .inl (y0, 2600, .inl (upd f6 (2 : Int32).toNatClampNeg v8)))] H := hP
  have hD : va_D A [(h0, .inr (11, [.ref h1, .ref h2, .ref h3, .ref h4, .ref h5, .int 2, .int 0])), (h1, .inl (y0, 2600, .inl (upd f6 (2 : Int32).toNatClampNeg v8)))] := hD
  obtain ⟨f9, ef9⟩ : ∃ z, z = upd f6 (2 : Int32).toNatClampNeg v8 := ⟨_, rfl⟩
  rw [← ef9] at hP hD
  have if9 : ∀ j, iv (f9 j) 0 255 := by rw [ef9]; exact iv_upd if6 iv8 (by decide) (by decide) (by decide) (by decide)
  refine lv_aload_n hx hb dX11_putNumber_33 rfl (lv_at hl 1 rfl) ?_
  refine lv_dup hx hb dX11_putNumber_34 rfl ?_
  refine va_get (D := (dC, dI)) (ci := 11) (v := .int 2) (C := RX11) (T := TX11) (N := 7) hx hb hG inGX11 hown hK hP 0 rfl rfl 5 (by decide) (hG _ wd_400) (fun _ h9 => h9) rfl dX11_putNumber_35 ?_
  refine lv_iconst (v := 1) hx hb dX11_putNumber_38 (by decide) ?_
  refine lv_iadd hx hb dX11_putNumber_39 ?_
  refine lv_val (y := 3) (by decide +kernel) ?_
  refine va_put (D := (dC, dI)) (ci := 11) (v := .int 3) (ty := .int) (C := RX11) (T := TX11) (N := 7) hx hb hG inGX11 tyX11 tyX11_ok nmX11 hown hK hP hD hS 0 rfl rfl 5 (by decide) (hG _ wd_400) (fun _ h9 => h9) rfl (by decide +kernel) rfl rfl (Nat.le_of_ble_eq_true rfl) dX11_putNumber_40 (fun H locs hP hD hS => ?_)
  have hP : va_P (dC, dI) vwCl [(h0, .inr (11, [.ref h1, .ref h2, .ref h3, .ref h4, .ref h5, .int 3, .int 0])), (h1, .inl (y0, 2600, .inl f9))] H := hP
  have hD : va_D A [(h0, .inr (11, [.ref h1, .ref h2, .ref h3, .ref h4, .ref h5, .int 3, .int 0])), (h1, .inl (y0, 2600, .inl f9))] := hD
  refine lv_iinc (v := 0) (lv' := [(2, .int 0), (0, .ref h0), (1, .int x0)]) hx hb dX11_putNumber_43 hl (k := 0) rfl (by decide) (by decide) rfl (fun ls hl => ?_)
  refine lv_goto (tgt := 3) hx hb dX11_putNumber_46 (by decide) ?_
  refine lv_iload_n hx hb dX11_putNumber_3 rfl (lv_at hl 0 rfl) ?_
  refine lv_if_lt (tgt := 49) hx hb dX11_putNumber_4 (by decide) (fun c => absurd c (by decide)) (fun _ => ?_)
  refine lv_aload_n hx hb dX11_putNumber_7 rfl (lv_at hl 1 rfl) ?_
  refine va_get (D := (dC, dI)) (ci := 11) (v := .int 3) (C := RX11) (T := TX11) (N := 7) hx hb hG inGX11 hown hK hP 0 rfl rfl 5 (by decide) (hG _ wd_400) (fun _ h9 => h9) rfl dX11_putNumber_8 ?_
  refine lv_sipush (v := 2600) hx hb dX11_putNumber_11 (by decide) ?_
  refine lv_icmp_ge (tgt := 43) hx hb dX11_putNumber_14 (by decide) (fun c => absurd c (by decide)) (fun _ => ?_)
  refine lv_aload_n hx hb dX11_putNumber_17 rfl (lv_at hl 1 rfl) ?_
  refine va_get (D := (dC, dI)) (ci := 11) (v := .ref h1) (C := RX11) (T := TX11) (N := 7) hx hb hG inGX11 hown hK hP 0 rfl rfl 0 (by decide) (hG _ wd_395) (fun _ h9 => h9) rfl dX11_putNumber_18 ?_
  refine lv_aload_n hx hb dX11_putNumber_21 rfl (lv_at hl 1 rfl) ?_
  refine va_get (D := (dC, dI)) (ci := 11) (v := .int 3) (C := RX11) (T := TX11) (N := 7) hx hb hG inGX11 hown hK hP 0 rfl rfl 5 (by decide) (hG _ wd_400) (fun _ h9 => h9) rfl dX11_putNumber_22 ?_
  refine lv_iload_n hx hb dX11_putNumber_25 rfl (lv_at hl 2 rfl) ?_
  refine lv_iload_n hx hb dX11_putNumber_26 rfl (lv_at hl 0 rfl) ?_
  refine lv_iushr (v := _) hx hb dX11_putNumber_27 rfl ?_
  refine lv_topi (fun v10 ev10 => ?_)
  refine lv_sipush (v := 255) hx hb dX11_putNumber_28 (by decide) ?_
  refine lv_iand hx hb dX11_putNumber_31 ?_
  refine lv_topi (fun v11 ev11 => ?_)
  have iv11 : iv v11 0 255 := iv_eq ev11 (iv_and (x := v10) (iv_w (by decide : iv 255 255 255) (by decide) (by decide) : iv 255 0 255))
  refine va_iast hx hb hK hP hD hS 1 0 rfl rfl (iv_in (by decide : iv 3 3 3) (by decide) (by decide) : vp_in 3 2600) dX11_putNumber_32 (fun H locs hP hD hS => ?_)
  have hP : va_P (dC, dI) vwCl [(h0, .inr (11, [.ref h1, .ref h2, .ref h3, .ref h4, .ref h5, .int 3, .int 0])), (h1, .inl (y0, 2600, .inl (upd f9 (3 : Int32).toNatClampNeg v11)))] H := hP
  have hD : va_D A [(h0, .inr (11, [.ref h1, .ref h2, .ref h3, .ref h4, .ref h5, .int 3, .int 0])), (h1, .inl (y0, 2600, .inl (upd f9 (3 : Int32).toNatClampNeg v11)))] := hD
  obtain ⟨f12, ef12⟩ : ∃ z, z = upd f9 (3 : Int32).toNatClampNeg v11 := ⟨_, rfl⟩
  rw [← ef12] at hP hD
  have if12 : ∀ j, iv (f12 j) 0 255 := by rw [ef12]; exact iv_upd if9 iv11 (by decide) (by decide) (by decide) (by decide)
  refine lv_aload_n hx hb dX11_putNumber_33 rfl (lv_at hl 1 rfl) ?_
  refine lv_dup hx hb dX11_putNumber_34 rfl ?_
  refine va_get (D := (dC, dI)) (ci := 11) (v := .int 3) (C := RX11) (T := TX11) (N := 7) hx hb hG inGX11 hown hK hP 0 rfl rfl 5 (by decide) (hG _ wd_400) (fun _ h9 => h9) rfl dX11_putNumber_35 ?_
  refine lv_iconst (v := 1) hx hb dX11_putNumber_38 (by decide) ?_
  refine lv_iadd hx hb dX11_putNumber_39 ?_
  refine lv_val (y := 4) (by decide +kernel) ?_
  refine va_put (D := (dC, dI)) (ci := 11) (v := .int 4) (ty := .int) (C := RX11) (T := TX11) (N := 7) hx hb hG inGX11 tyX11 tyX11_ok nmX11 hown hK hP hD hS 0 rfl rfl 5 (by decide) (hG _ wd_400) (fun _ h9 => h9) rfl (by decide +kernel) rfl rfl (Nat.le_of_ble_eq_true rfl) dX11_putNumber_40 (fun H locs hP hD hS => ?_)
  have hP : va_P (dC, dI) vwCl [(h0, .inr (11, [.ref h1, .ref h2, .ref h3, .ref h4, .ref h5, .int 4, .int 0])), (h1, .inl (y0, 2600, .inl f12))] H := hP
  have hD : va_D A [(h0, .inr (11, [.ref h1, .ref h2, .ref h3, .ref h4, .ref h5, .int 4, .int 0])), (h1, .inl (y0, 2600, .inl f12))] := hD
  refine lv_iinc (v := (-8)) (lv' := [(2, .int (-8)), (0, .ref h0), (1, .int x0)]) hx hb dX11_putNumber_43 hl (k := 0) rfl (by decide) (by decide) rfl (fun ls hl => ?_)
  refine lv_goto (tgt := 3) hx hb dX11_putNumber_46 (by decide) ?_
  refine lv_iload_n hx hb dX11_putNumber_3 rfl (lv_at hl 0 rfl) ?_
  refine lv_if_lt (tgt := 49) hx hb dX11_putNumber_4 (by decide) (fun _ => ?_) (fun c => absurd (by decide) c)
  have hP9 := hP.sub (ws' := [(h0, .inr (11, [.ref h1, .ref h2, .ref h3, .ref h4, .ref h5, .int 4, .int 0])), (h1, .inl (y0, 2600, .inl f12))]) [0, 1] rfl
  have hD9 := hD.sub (ws' := [(h0, .inr (11, [.ref h1, .ref h2, .ref h3, .ref h4, .ref h5, .int 4, .int 0])), (h1, .inl (y0, 2600, .inl f12))]) [0, 1] (by decide) rfl
  have hK9 := hK.sub (tys' := [(y0, .int)]) [0] rfl
  exact W.vret hx hb hr (fun t ht hW => ⟨⟨f12, rfl, ⟨(fun j => iv_w (if12 j) (by decide) (by decide)), trivial⟩, by rw [ht]; exact hP9, va_K.moved hW.alike hK9, hD9⟩, hS.F ht⟩) hS.2.2 dX11_putNumber_49
set_option maxHeartbeats 4000000 in
set_option maxRecDepth 100000 in
theorem cX11_putNumber_2 (l : Launch) (dC : Nat → ClassId) (dI : Nat → Nat → Nat) (h0 h1 h2 h3 h4 h5 : Nat) (y0 : ClassId) (sz : Nat) (x0 : Int32) (f0 : Nat → Int32) (if0 : ∀ j, iv (f0 j) 0 255) : Met l yX11_putNumber (Cond.code yX11_putNumber cX11_putNumber 3 none :: lw_G) ({ frames := 0, cells := 0, slots := 0, locals := 0 }) (va_Pc [.ref h0, .int x0] (fun U => U.heap.size = sz ∧ va_P (dC, dI) vwCl [(h0, .inr (11, [.ref h1, .ref h2, .ref h3, .ref h4, .ref h5, .int 4, .int 0])), (h1, .inl (y0, 2600, .inl f0))] U.heap ∧ va_K (dC, dI) vwCl [(y0, .int)] U ∧ va_D (fun _ => True) [(h0, .inr (11, [.ref h1, .ref h2, .ref h3, .ref h4, .ref h5, .int 4, .int 0])), (h1, .inl (y0, 2600, .inl f0))])) (va_Qv (fun (u : (Nat → Int32)) => (∀ j, iv (u j) 0 255) ∧ True) (fun (u : (Nat → Int32)) (t : State) => va_P (dC, dI) vwCl [(h0, .inr (11, [.ref h1, .ref h2, .ref h3, .ref h4, .ref h5, .int 8, .int 0])), (h1, .inl (y0, 2600, .inl u))] t.heap ∧ va_K (dC, dI) vwCl [(y0, .int)] t ∧ va_D (va_A [(h0, .inr (11, [.ref h1, .ref h2, .ref h3, .ref h4, .ref h5, .int 4, .int 0])), (h1, .inl (y0, 2600, .inl f0))] sz) [(h0, .inr (11, [.ref h1, .ref h2, .ref h3, .ref h4, .ref h5, .int 8, .int 0])), (h1, .inl (y0, 2600, .inl u))]) (va_A [(h0, .inr (11, [.ref h1, .ref h2, .ref h3, .ref h4, .ref h5, .int 4, .int 0])), (h1, .inl (y0, 2600, .inl f0))] sz)) 0 0 (va_A [(h0, .inr (11, [.ref h1, .ref h2, .ref h3, .ref h4, .ref h5, .int 4, .int 0])), (h1, .inl (y0, 2600, .inl f0))] sz) := by
  refine Met.ofW (cc := cX11_putNumber) (maxL := 3) (ret := none) (by decide) rfl ?_
  intro p e s m args below meth c s₁ B hml hv
  obtain ⟨rfl, hsz, hP, hK, hD0⟩ := hv
  have hx := B.exec
  have hb := B.bytes
  have hr := B.returns
  have hts0 := atoms_spec (ws := Cond.code yX11_putNumber cX11_putNumber 3 none :: lw_G) B.pre
  have hG : ∀ w ∈ lw_G, w.before _ s = true := fun w h => hts0 w (List.mem_cons_of_mem _ h)
  have hown : s.vm.findClass RX11 = some m.cls := findClass_of_methodNamed B.named
  have hlocks := B.notSynchronized
  subst hsz
  have hD := hD0.self (sz := s.heap.size)
  generalize hAe : va_A [(h0, .inr (11, [.ref h1, .ref h2, .ref h3, .ref h4, .ref h5, .int 4, .int 0])), (h1, .inl (y0, 2600, .inl f0))] s.heap.size = A at hD ⊢
  have hA : ∀ q : Nat, s.heap.size ≤ q → A q := fun q h => by rw [← hAe]; exact Or.inr h
  have hS : va_S A s.heap s.heap [] := va_S.rf
  have hP : va_P (dC, dI) vwCl [(h0, .inr (11, [.ref h1, .ref h2, .ref h3, .ref h4, .ref h5, .int 4, .int 0])), (h1, .inl (y0, 2600, .inl f0))] s.heap := hP
  have hl := lv_entry ([.ref h0, .int x0]) (n := 3) (Nat.le_of_ble_eq_true rfl)
  rw [lg_entry_eq]
  generalize (lg_sl ([.ref h0, .int x0]) ++ List.replicate (3 - (lg_sl ([.ref h0, .int x0])).length) Slot.unset).toArray = ls at hl ⊢
  have hl : lv_has ls 3 [(0, .ref h0), (1, .int x0)] := hl
  refine lv_bipush (v := 24) hx hb dX11_putNumber_0 (by decide) ?_
  refine lv_istore_n (lv' := [(2, .int 24), (0, .ref h0), (1, .int x0)]) hx hb dX11_putNumber_2 rfl hl (by decide) rfl (fun ls hl => ?_)
  refine lv_iload_n hx hb dX11_putNumber_3 rfl (lv_at hl 0 rfl) ?_
  refine lv_if_lt (tgt := 49) hx hb dX11_putNumber_4 (by decide) (fun c => absurd c (by decide)) (fun _ => ?_)
  refine lv_aload_n hx hb dX11_putNumber_7 rfl (lv_at hl 1 rfl) ?_
  refine va_get (D := (dC, dI)) (ci := 11) (v := .int 4) (C := RX11) (T := TX11) (N := 7) hx hb hG inGX11 hown hK hP 0 rfl rfl 5 (by decide) (hG _ wd_400) (fun _ h9 => h9) rfl dX11_putNumber_8 ?_
  refine lv_sipush (v := 2600) hx hb dX11_putNumber_11 (by decide) ?_
  refine lv_icmp_ge (tgt := 43) hx hb dX11_putNumber_14 (by decide) (fun c => absurd c (by decide)) (fun _ => ?_)
  refine lv_aload_n hx hb dX11_putNumber_17 rfl (lv_at hl 1 rfl) ?_
  refine va_get (D := (dC, dI)) (ci := 11) (v := .ref h1) (C := RX11) (T := TX11) (N := 7) hx hb hG inGX11 hown hK hP 0 rfl rfl 0 (by decide) (hG _ wd_395) (fun _ h9 => h9) rfl dX11_putNumber_18 ?_
  refine lv_aload_n hx hb dX11_putNumber_21 rfl (lv_at hl 1 rfl) ?_
  refine va_get (D := (dC, dI)) (ci := 11) (v := .int 4) (C := RX11) (T := TX11) (N := 7) hx hb hG inGX11 hown hK hP 0 rfl rfl 5 (by decide) (hG _ wd_400) (fun _ h9 => h9) rfl dX11_putNumber_22 ?_
  refine lv_iload_n hx hb dX11_putNumber_25 rfl (lv_at hl 2 rfl) ?_
  refine lv_iload_n hx hb dX11_putNumber_26 rfl (lv_at hl 0 rfl) ?_
  refine lv_iushr (v := _) hx hb dX11_putNumber_27 rfl ?_
  refine lv_topi (fun v1 ev1 => ?_)
  refine lv_sipush (v := 255) hx hb dX11_putNumber_28 (by decide) ?_
  refine lv_iand hx hb dX11_putNumber_31 ?_
  refine lv_topi (fun v2 ev2 => ?_)
  have iv2 : iv v2 0 255 := iv_eq ev2 (iv_and (x := v1) (iv_w (by decide : iv 255 255 255) (by decide) (by decide) : iv 255 0 255))
  refine va_iast hx hb hK hP hD hS 1 0 rfl rfl (iv_in (by decide : iv 4 4 4) (by decide) (by decide) : vp_in 4 2600) dX11_putNumber_32 (fun H locs hP hD hS => ?_)
  have hP : va_P (dC, dI) vwCl [(h0, .inr (11, [.ref h1, .ref h2, .ref h3, .ref h4, .ref h5, .int 4, .int 0])), (h1, .inl (y0, 2600, .inl (upd f0 (4 : Int32).toNatClampNeg v2)))] H := hP
  have hD : va_D A [(h0, .inr (11, [.ref h1, .ref h2, .ref h3, .ref h4, .ref h5, .int 4, .int 0])), (h1, .inl (y0, 2600, .inl (upd f0 (4 : Int32).toNatClampNeg v2)))] := hD
  obtain ⟨f3, ef3⟩ : ∃ z, z = upd f0 (4 : Int32).toNatClampNeg v2 := ⟨_, rfl⟩
  rw [← ef3] at hP hD
  have if3 : ∀ j, iv (f3 j) 0 255 := by rw [ef3]; exact iv_upd if0 iv2 (by decide) (by decide) (by decide) (by decide)
  refine lv_aload_n hx hb dX11_putNumber_33 rfl (lv_at hl 1 rfl) ?_
  refine lv_dup hx hb dX11_putNumber_34 rfl ?_
  refine va_get (D := (dC, dI)) (ci := 11) (v := .int 4) (C := RX11) (T := TX11) (N := 7) hx hb hG inGX11 hown hK hP 0 rfl rfl 5 (by decide) (hG _ wd_400) (fun _ h9 => h9) rfl dX11_putNumber_35 ?_
  refine lv_iconst (v := 1) hx hb dX11_putNumber_38 (by decide) ?_
  refine lv_iadd hx hb dX11_putNumber_39 ?_
  refine lv_val (y := 5) (by decide +kernel) ?_
  refine va_put (D := (dC, dI)) (ci := 11) (v := .int 5) (ty := .int) (C := RX11) (T := TX11) (N := 7) hx hb hG inGX11 tyX11 tyX11_ok nmX11 hown hK hP hD hS 0 rfl rfl 5 (by decide) (hG _ wd_400) (fun _ h9 => h9) rfl (by decide +kernel) rfl rfl (Nat.le_of_ble_eq_true rfl) dX11_putNumber_40 (fun H locs hP hD hS => ?_)
  have hP : va_P (dC, dI) vwCl [(h0, .inr (11, [.ref h1, .ref h2, .ref h3, .ref h4, .ref h5, .int 5, .int 0])), (h1, .inl (y0, 2600, .inl f3))] H := hP
  have hD : va_D A [(h0, .inr (11, [.ref h1, .ref h2, .ref h3, .ref h4, .ref h5, .int 5, .int 0])), (h1, .inl (y0, 2600, .inl f3))] := hD
  refine lv_iinc (v := 16) (lv' := [(2, .int 16), (0, .ref h0), (1, .int x0)]) hx hb dX11_putNumber_43 hl (k := 0) rfl (by decide) (by decide) rfl (fun ls hl => ?_)
  refine lv_goto (tgt := 3) hx hb dX11_putNumber_46 (by decide) ?_
  refine lv_iload_n hx hb dX11_putNumber_3 rfl (lv_at hl 0 rfl) ?_
  refine lv_if_lt (tgt := 49) hx hb dX11_putNumber_4 (by decide) (fun c => absurd c (by decide)) (fun _ => ?_)
  refine lv_aload_n hx hb dX11_putNumber_7 rfl (lv_at hl 1 rfl) ?_
  refine va_get (D := (dC, dI)) (ci := 11) (v := .int 5) (C := RX11) (T := TX11) (N := 7) hx hb hG inGX11 hown hK hP 0 rfl rfl 5 (by decide) (hG _ wd_400) (fun _ h9 => h9) rfl dX11_putNumber_8 ?_
  refine lv_sipush (v := 2600) hx hb dX11_putNumber_11 (by decide) ?_
  refine lv_icmp_ge (tgt := 43) hx hb dX11_putNumber_14 (by decide) (fun c => absurd c (by decide)) (fun _ => ?_)
  refine lv_aload_n hx hb dX11_putNumber_17 rfl (lv_at hl 1 rfl) ?_
  refine va_get (D := (dC, dI)) (ci := 11) (v := .ref h1) (C := RX11) (T := TX11) (N := 7) hx hb hG inGX11 hown hK hP 0 rfl rfl 0 (by decide) (hG _ wd_395) (fun _ h9 => h9) rfl dX11_putNumber_18 ?_
  refine lv_aload_n hx hb dX11_putNumber_21 rfl (lv_at hl 1 rfl) ?_
  refine va_get (D := (dC, dI)) (ci := 11) (v := .int 5) (C := RX11) (T := TX11) (N := 7) hx hb hG inGX11 hown hK hP 0 rfl rfl 5 (by decide) (hG _ wd_400) (fun _ h9 => h9) rfl dX11_putNumber_22 ?_
  refine lv_iload_n hx hb dX11_putNumber_25 rfl (lv_at hl 2 rfl) ?_
  refine lv_iload_n hx hb dX11_putNumber_26 rfl (lv_at hl 0 rfl) ?_
  refine lv_iushr (v := _) hx hb dX11_putNumber_27 rfl ?_
  refine lv_topi (fun v4 ev4 => ?_)
  refine lv_sipush (v := 255) hx hb dX11_putNumber_28 (by decide) ?_
  refine lv_iand hx hb dX11_putNumber_31 ?_
  refine lv_topi (fun v5 ev5 => ?_)
  have iv5 : iv v5 0 255 := iv_eq ev5 (iv_and (x := v4) (iv_w (by decide : iv 255 255 255) (by decide) (by decide) : iv 255 0 255))
  refine va_iast hx hb hK hP hD hS 1 0 rfl rfl (iv_in (by decide : iv 5 5 5) (by decide) (by decide) : vp_in 5 2600) dX11_putNumber_32 (fun H locs hP hD hS => ?_)
  have hP : va_P (dC, dI) vwCl [(h0, .inr (11, [.ref h1, .ref h2, .ref h3, .ref h4, .ref h5, .int 5, .int 0])), (h1, .inl (y0, 2600, .inl (upd f3 (5 : Int32).toNatClampNeg v5)))] H := hP
  have hD : va_D A [(h0, .inr (11, [.ref h1, .ref h2, .ref h3, .ref h4, .ref h5, .int 5, .int 0])), (h1, .inl (y0, 2600, .inl (upd f3 (5 : Int32).toNatClampNeg v5)))] := hD
  obtain ⟨f6, ef6⟩ : ∃ z, z = upd f3 (5 : Int32).toNatClampNeg v5 := ⟨_, rfl⟩
  rw [← ef6] at hP hD
  have if6 : ∀ j, iv (f6 j) 0 255 := by rw [ef6]; exact iv_upd if3 iv5 (by decide) (by decide) (by decide) (by decide)
  refine lv_aload_n hx hb dX11_putNumber_33 rfl (lv_at hl 1 rfl) ?_
  refine lv_dup hx hb dX11_putNumber_34 rfl ?_
  refine va_get (D := (dC, dI)) (ci := 11) (v := .int 5) (C := RX11) (T := TX11) (N := 7) hx hb hG inGX11 hown hK hP 0 rfl rfl 5 (by decide) (hG _ wd_400) (fun _ h9 => h9) rfl dX11_putNumber_35 ?_
  refine lv_iconst (v := 1) hx hb dX11_putNumber_38 (by decide) ?_
  refine lv_iadd hx hb dX11_putNumber_39 ?_
  refine lv_val (y := 6) (by decide +kernel) ?_
  refine va_put (D := (dC, dI)) (ci := 11) (v := .int 6) (ty := .int) (C := RX11) (T := TX11) (N := 7) hx hb hG inGX11 tyX11 tyX11_ok nmX11 hown hK hP hD hS 0 rfl rfl 5 (by decide) (hG _ wd_400) (fun _ h9 => h9) rfl (by decide +kernel) rfl rfl (Nat.le_of_ble_eq_true rfl) dX11_putNumber_40 (fun H locs hP hD hS => ?_)
  have hP : va_P (dC, dI) vwCl [(h0, .inr (11, [.ref h1, .ref h2, .ref h3, .ref h4, .ref h5, .int 6, .int 0])), (h1, .inl (y0, 2600, .inl f6))] H := hP
  have hD : va_D A [(h0, .inr (11, [.ref h1, .ref h2, .ref h3, .ref h4, .ref h5, .int 6, .int 0])), (h1, .inl (y0, 2600, .inl f6))] := hD
  refine lv_iinc (v := 8) (lv' := [(2, .int 8), (0, .ref h0), (1, .int x0)]) hx hb dX11_putNumber_43 hl (k := 0) rfl (by decide) (by decide) rfl (fun ls hl => ?_)
  refine lv_goto (tgt := 3) hx hb dX11_putNumber_46 (by decide) ?_
  refine lv_iload_n hx hb dX11_putNumber_3 rfl (lv_at hl 0 rfl) ?_
  refine lv_if_lt (tgt := 49) hx hb dX11_putNumber_4 (by decide) (fun c => absurd c (by decide)) (fun _ => ?_)
  refine lv_aload_n hx hb dX11_putNumber_7 rfl (lv_at hl 1 rfl) ?_
  refine va_get (D := (dC, dI)) (ci := 11) (v := .int 6) (C := RX11) (T := TX11) (N := 7) hx hb hG inGX11 hown hK hP 0 rfl rfl 5 (by decide) (hG _ wd_400) (fun _ h9 => h9) rfl dX11_putNumber_8 ?_
  refine lv_sipush (v := 2600) hx hb dX11_putNumber_11 (by decide) ?_
  refine lv_icmp_ge (tgt := 43) hx hb dX11_putNumber_14 (by decide) (fun c => absurd c (by decide)) (fun _ => ?_)
  refine lv_aload_n hx hb dX11_putNumber_17 rfl (lv_at hl 1 rfl) ?_
  refine va_get (D := (dC, dI)) (ci := 11) (v := .ref h1) (C := RX11) (T := TX11) (N := 7) hx hb hG inGX11 hown hK hP 0 rfl rfl 0 (by decide) (hG _ wd_395) (fun _ h9 => h9) rfl dX11_putNumber_18 ?_
  refine lv_aload_n hx hb dX11_putNumber_21 rfl (lv_at hl 1 rfl) ?_
  refine va_get (D := (dC, dI)) (ci := 11) (v := .int 6) (C := RX11) (T := TX11) (N := 7) hx hb hG inGX11 hown hK hP 0 rfl rfl 5 (by decide) (hG _ wd_400) (fun _ h9 => h9) rfl dX11_putNumber_22 ?_
  refine lv_iload_n hx hb dX11_putNumber_25 rfl (lv_at hl 2 rfl) ?_
  refine lv_iload_n hx hb dX11_putNumber_26 rfl (lv_at hl 0 rfl) ?_
  refine lv_iushr (v := _) hx hb dX11_putNumber_27 rfl ?_
  refine lv_topi (fun v7 ev7 => ?_)
  refine lv_sipush (v := 255) hx hb dX11_putNumber_28 (by decide) ?_
  refine lv_iand hx hb dX11_putNumber_31 ?_
  refine lv_topi (fun v8 ev8 => ?_)
  have iv8 : iv v8 0 255 := iv_eq ev8 (iv_and (x := v7) (iv_w (by decide : iv 255 255 255) (by decide) (by decide) : iv 255 0 255))
  refine va_iast hx hb hK hP hD hS 1 0 rfl rfl (iv_in (by decide : iv 6 6 6) (by decide) (by decide) : vp_in 6 2600) dX11_putNumber_32 (fun H locs hP hD hS => ?_)
  have hP : va_P (dC, dI) vwCl [(h0, .inr (11, [.ref h1, .ref h2, .ref h3, .ref h4, .ref h5, .int 6, .int 0])), (h1, .inl (y0, 2600, .inl (upd f6 (6 : Int32).toNatClampNeg v8)))] H := hP
  have hD : va_D A [(h0, .inr (11, [.ref h1, .ref h2, .ref h3, .ref h4, .ref h5, .int 6, .int 0])), (h1, .inl (y0, 2600, .inl (upd f6 (6 : Int32).toNatClampNeg v8)))] := hD
  obtain ⟨f9, ef9⟩ : ∃ z, z = upd f6 (6 : Int32).toNatClampNeg v8 := ⟨_, rfl⟩
  rw [← ef9] at hP hD
  have if9 : ∀ j, iv (f9 j) 0 255 := by rw [ef9]; exact iv_upd if6 iv8 (by decide) (by decide) (by decide) (by decide)
  refine lv_aload_n hx hb dX11_putNumber_33 rfl (lv_at hl 1 rfl) ?_
  refine lv_dup hx hb dX11_putNumber_34 rfl ?_
  refine va_get (D := (dC, dI)) (ci := 11) (v := .int 6) (C := RX11) (T := TX11) (N := 7) hx hb hG inGX11 hown hK hP 0 rfl rfl 5 (by decide) (hG _ wd_400) (fun _ h9 => h9) rfl dX11_putNumber_35 ?_
  refine lv_iconst (v := 1) hx hb dX11_putNumber_38 (by decide) ?_
  refine lv_iadd hx hb dX11_putNumber_39 ?_
  refine lv_val (y := 7) (by decide +kernel) ?_
  refine va_put (D := (dC, dI)) (ci := 11) (v := .int 7) (ty := .int) (C := RX11) (T := TX11) (N := 7) hx hb hG inGX11 tyX11 tyX11_ok nmX11 hown hK hP hD hS 0 rfl rfl 5 (by decide) (hG _ wd_400) (fun _ h9 => h9) rfl (by decide +kernel) rfl rfl (Nat.le_of_ble_eq_true rfl) dX11_putNumber_40 (fun H locs hP hD hS => ?_)
  have hP : va_P (dC, dI) vwCl [(h0, .inr (11, [.ref h1, .ref h2, .ref h3, .ref h4, .ref h5, .int 7, .int 0])), (h1, .inl (y0, 2600, .inl f9))] H := hP
  have hD : va_D A [(h0, .inr (11, [.ref h1, .ref h2, .ref h3, .ref h4, .ref h5, .int 7, .int 0])), (h1, .inl (y0, 2600, .inl f9))] := hD
  refine lv_iinc (v := 0) (lv' := [(2, .int 0), (0, .ref h0), (1, .int x0)]) hx hb dX11_putNumber_43 hl (k := 0) rfl (by decide) (by decide) rfl (fun ls hl => ?_)
  refine lv_goto (tgt := 3) hx hb dX11_putNumber_46 (by decide) ?_
  refine lv_iload_n hx hb dX11_putNumber_3 rfl (lv_at hl 0 rfl) ?_
  refine lv_if_lt (tgt := 49) hx hb dX11_putNumber_4 (by decide) (fun c => absurd c (by decide)) (fun _ => ?_)
  refine lv_aload_n hx hb dX11_putNumber_7 rfl (lv_at hl 1 rfl) ?_
  refine va_get (D := (dC, dI)) (ci := 11) (v := .int 7) (C := RX11) (T := TX11) (N := 7) hx hb hG inGX11 hown hK hP 0 rfl rfl 5 (by decide) (hG _ wd_400) (fun _ h9 => h9) rfl dX11_putNumber_8 ?_
  refine lv_sipush (v := 2600) hx hb dX11_putNumber_11 (by decide) ?_
  refine lv_icmp_ge (tgt := 43) hx hb dX11_putNumber_14 (by decide) (fun c => absurd c (by decide)) (fun _ => ?_)
  refine lv_aload_n hx hb dX11_putNumber_17 rfl (lv_at hl 1 rfl) ?_
  refine va_get (D := (dC, dI)) (ci := 11) (v := .ref h1) (C := RX11) (T := TX11) (N := 7) hx hb hG inGX11 hown hK hP 0 rfl rfl 0 (by decide) (hG _ wd_395) (fun _ h9 => h9) rfl dX11_putNumber_18 ?_
  refine lv_aload_n hx hb dX11_putNumber_21 rfl (lv_at hl 1 rfl) ?_
  refine va_get (D := (dC, dI)) (ci := 11) (v := .int 7) (C := RX11) (T := TX11) (N := 7) hx hb hG inGX11 hown hK hP 0 rfl rfl 5 (by decide) (hG _ wd_400) (fun _ h9 => h9) rfl dX11_putNumber_22 ?_
  refine lv_iload_n hx hb dX11_putNumber_25 rfl (lv_at hl 2 rfl) ?_
  refine lv_iload_n hx hb dX11_putNumber_26 rfl (lv_at hl 0 rfl) ?_
  refine lv_iushr (v := _) hx hb dX11_putNumber_27 rfl ?_
  refine lv_topi (fun v10 ev10 => ?_)
  refine lv_sipush (v := 255) hx hb dX11_putNumber_28 (by decide) ?_
  refine lv_iand hx hb dX11_putNumber_31 ?_
  refine lv_topi (fun v11 ev11 => ?_)
  have iv11 : iv v11 0 255 := iv_eq ev11 (iv_and (x := v10) (iv_w (by decide : iv 255 255 255) (by decide) (by decide) : iv 255 0 255))
  refine va_iast hx hb hK hP hD hS 1 0 rfl rfl (iv_in (by decide : iv 7 7 7) (by decide) (by decide) : vp_in 7 2600) dX11_putNumber_32 (fun H locs hP hD hS => ?_)
  have hP : va_P (dC, dI) vwCl [(h0, .inr (11, [.ref h1, .ref h2, .ref h3, .ref h4, .ref h5, .int 7, .int 0])), (h1, .inl (y0, 2600, .inl (upd f9 (7 : Int32).toNatClampNeg v11)))] H := hP
  have hD : va_D A [(h0, .inr (11, [.ref h1, .ref h2, .ref h3, .ref h4, .ref h5, .int 7, .int 0])), (h1, .inl (y0, 2600, .inl (upd f9 (7 : Int32).toNatClampNeg v11)))] := hD
  obtain ⟨f12, ef12⟩ : ∃ z, z = upd f9 (7 : Int32).toNatClampNeg v11 := ⟨_, rfl⟩
  rw [← ef12] at hP hD
  have if12 : ∀ j, iv (f12 j) 0 255 := by rw [ef12]; exact iv_upd if9 iv11 (by decide) (by decide) (by decide) (by decide)
  refine lv_aload_n hx hb dX11_putNumber_33 rfl (lv_at hl 1 rfl) ?_
  refine lv_dup hx hb dX11_putNumber_34 rfl ?_
  refine va_get (D := (dC, dI)) (ci := 11) (v := .int 7) (C := RX11) (T := TX11) (N := 7) hx hb hG inGX11 hown hK hP 0 rfl rfl 5 (by decide) (hG _ wd_400) (fun _ h9 => h9) rfl dX11_putNumber_35 ?_
  refine lv_iconst (v := 1) hx hb dX11_putNumber_38 (by decide) ?_
  refine lv_iadd hx hb dX11_putNumber_39 ?_
  refine lv_val (y := 8) (by decide +kernel) ?_
  refine va_put (D := (dC, dI)) (ci := 11) (v := .int 8) (ty := .int) (C := RX11) (T := TX11) (N := 7) hx hb hG inGX11 tyX11 tyX11_ok nmX11 hown hK hP hD hS 0 rfl rfl 5 (by decide) (hG _ wd_400) (fun _ h9 => h9) rfl (by decide +kernel) rfl rfl (Nat.le_of_ble_eq_true rfl) dX11_putNumber_40 (fun H locs hP hD hS => ?_)
  have hP : va_P (dC, dI) vwCl [(h0, .inr (11, [.ref h1, .ref h2, .ref h3, .ref h4, .ref h5, .int 8, .int 0])), (h1, .inl (y0, 2600, .inl f12))] H := hP
  have hD : va_D A [(h0, .inr (11, [.ref h1, .ref h2, .ref h3, .ref h4, .ref h5, .int 8, .int 0])), (h1, .inl (y0, 2600, .inl f12))] := hD
  refine lv_iinc (v := (-8)) (lv' := [(2, .int (-8)), (0, .ref h0), (1, .int x0)]) hx hb dX11_putNumber_43 hl (k := 0) rfl (by decide) (by decide) rfl (fun ls hl => ?_)
  refine lv_goto (tgt := 3) hx hb dX11_putNumber_46 (by decide) ?_
  refine lv_iload_n hx hb dX11_putNumber_3 rfl (lv_at hl 0 rfl) ?_
  refine lv_if_lt (tgt := 49) hx hb dX11_putNumber_4 (by decide) (fun _ => ?_) (fun c => absurd (by decide) c)
  have hP9 := hP.sub (ws' := [(h0, .inr (11, [.ref h1, .ref h2, .ref h3, .ref h4, .ref h5, .int 8, .int 0])), (h1, .inl (y0, 2600, .inl f12))]) [0, 1] rfl
  have hD9 := hD.sub (ws' := [(h0, .inr (11, [.ref h1, .ref h2, .ref h3, .ref h4, .ref h5, .int 8, .int 0])), (h1, .inl (y0, 2600, .inl f12))]) [0, 1] (by decide) rfl
  have hK9 := hK.sub (tys' := [(y0, .int)]) [0] rfl
  exact W.vret hx hb hr (fun t ht hW => ⟨⟨f12, rfl, ⟨(fun j => iv_w (if12 j) (by decide) (by decide)), trivial⟩, by rw [ht]; exact hP9, va_K.moved hW.alike hK9, hD9⟩, hS.F ht⟩) hS.2.2 dX11_putNumber_49
set_option maxHeartbeats 4000000 in
set_option maxRecDepth 100000 in
theorem cX11_putNumber_3 (l : Launch) (dC : Nat → ClassId) (dI : Nat → Nat → Nat) (h0 h1 h2 h3 h4 h5 : Nat) (y0 : ClassId) (sz : Nat) (x0 : Int32) (f0 : Nat → Int32) (if0 : ∀ j, iv (f0 j) 0 255) : Met l yX11_putNumber (Cond.code yX11_putNumber cX11_putNumber 3 none :: lw_G) ({ frames := 0, cells := 0, slots := 0, locals := 0 }) (va_Pc [.ref h0, .int x0] (fun U => U.heap.size = sz ∧ va_P (dC, dI) vwCl [(h0, .inr (11, [.ref h1, .ref h2, .ref h3, .ref h4, .ref h5, .int 8, .int 0])), (h1, .inl (y0, 2600, .inl f0))] U.heap ∧ va_K (dC, dI) vwCl [(y0, .int)] U ∧ va_D (fun _ => True) [(h0, .inr (11, [.ref h1, .ref h2, .ref h3, .ref h4, .ref h5, .int 8, .int 0])), (h1, .inl (y0, 2600, .inl f0))])) (va_Qv (fun (u : (Nat → Int32)) => (∀ j, iv (u j) 0 255) ∧ True) (fun (u : (Nat → Int32)) (t : State) => va_P (dC, dI) vwCl [(h0, .inr (11, [.ref h1, .ref h2, .ref h3, .ref h4, .ref h5, .int 12, .int 0])), (h1, .inl (y0, 2600, .inl u))] t.heap ∧ va_K (dC, dI) vwCl [(y0, .int)] t ∧ va_D (va_A [(h0, .inr (11, [.ref h1, .ref h2, .ref h3, .ref h4, .ref h5, .int 8, .int 0])), (h1, .inl (y0, 2600, .inl f0))] sz) [(h0, .inr (11, [.ref h1, .ref h2, .ref h3, .ref h4, .ref h5, .int 12, .int 0])), (h1, .inl (y0, 2600, .inl u))]) (va_A [(h0, .inr (11, [.ref h1, .ref h2, .ref h3, .ref h4, .ref h5, .int 8, .int 0])), (h1, .inl (y0, 2600, .inl f0))] sz)) 0 0 (va_A [(h0, .inr (11, [.ref h1, .ref h2, .ref h3, .ref h4, .ref h5, .int 8, .int 0])), (h1, .inl (y0, 2600, .inl f0))] sz) := by
  refine Met.ofW (cc := cX11_putNumber) (maxL := 3) (ret := none) (by decide) rfl ?_
  intro p e s m args below meth c s₁ B hml hv
  obtain ⟨rfl, hsz, hP, hK, hD0⟩ := hv
  have hx := B.exec
  have hb := B.bytes
  have hr := B.returns
  have hts0 := atoms_spec (ws := Cond.code yX11_putNumber cX11_putNumber 3 none :: lw_G) B.pre
  have hG : ∀ w ∈ lw_G, w.before _ s = true := fun w h => hts0 w (List.mem_cons_of_mem _ h)
  have hown : s.vm.findClass RX11 = some m.cls := findClass_of_methodNamed B.named
  have hlocks := B.notSynchronized
  subst hsz
  have hD := hD0.self (sz := s.heap.size)
  generalize hAe : va_A [(h0, .inr (11, [.ref h1, .ref h2, .ref h3, .ref h4, .ref h5, .int 8, .int 0])), (h1, .inl (y0, 2600, .inl f0))] s.heap.size = A at hD ⊢
  have hA : ∀ q : Nat, s.heap.size ≤ q → A q := fun q h => by rw [← hAe]; exact Or.inr h
  have hS : va_S A s.heap s.heap [] := va_S.rf
  have hP : va_P (dC, dI) vwCl [(h0, .inr (11, [.ref h1, .ref h2, .ref h3, .ref h4, .ref h5, .int 8, .int 0])), (h1, .inl (y0, 2600, .inl f0))] s.heap := hP
  have hl := lv_entry ([.ref h0, .int x0]) (n := 3) (Nat.le_of_ble_eq_true rfl)
  rw [lg_entry_eq]
  generalize (lg_sl ([.ref h0, .int x0]) ++ List.replicate (3 - (lg_sl ([.ref h0, .int x0])).length) Slot.unset).toArray = ls at hl ⊢
  have hl : lv_has ls 3 [(0, .ref h0), (1, .int x0)] := hl
  refine lv_bipush (v := 24) hx hb dX11_putNumber_0 (by decide) ?_
  refine lv_istore_n (lv' := [(2, .int 24), (0, .ref h0), (1, .int x0)]) hx hb dX11_putNumber_2 rfl hl (by decide) rfl (fun ls hl => ?_)
  refine lv_iload_n hx hb dX11_putNumber_3 rfl (lv_at hl 0 rfl) ?_
  refine lv_if_lt (tgt := 49) hx hb dX11_putNumber_4 (by decide) (fun c => absurd c (by decide)) (fun _ => ?_)
  refine lv_aload_n hx hb dX11_putNumber_7 rfl (lv_at hl 1 rfl) ?_
  refine va_get (D := (dC, dI)) (ci := 11) (v := .int 8) (C := RX11) (T := TX11) (N := 7) hx hb hG inGX11 hown hK hP 0 rfl rfl 5 (by decide) (hG _ wd_400) (fun _ h9 => h9) rfl dX11_putNumber_8 ?_
  refine lv_sipush (v := 2600) hx hb dX11_putNumber_11 (by decide) ?_
  refine lv_icmp_ge (tgt := 43) hx hb dX11_putNumber_14 (by decide) (fun c => absurd c (by decide)) (fun _ => ?_)
  refine lv_aload_n hx hb dX11_putNumber_17 rfl (lv_at hl 1 rfl) ?_
  refine va_get (D := (dC, dI)) (ci := 11) (v := .ref h1) (C := RX11) (T := TX11) (N := 7) hx hb hG inGX11 hown hK hP 0 rfl rfl 0 (by decide) (hG _ wd_395) (fun _ h9 => h9) rfl dX11_putNumber_18 ?_
  refine lv_aload_n hx hb dX11_putNumber_21 rfl (lv_at hl 1 rfl) ?_
  refine va_get (D := (dC, dI)) (ci := 11) (v := .int 8) (C := RX11) (T := TX11) (N := 7) hx hb hG inGX11 hown hK hP 0 rfl rfl 5 (by decide) (hG _ wd_400) (fun _ h9 => h9) rfl dX11_putNumber_22 ?_
  refine lv_iload_n hx hb dX11_putNumber_25 rfl (lv_at hl 2 rfl) ?_
  refine lv_iload_n hx hb dX11_putNumber_26 rfl (lv_at hl 0 rfl) ?_
  refine lv_iushr (v := _) hx hb dX11_putNumber_27 rfl ?_
  refine lv_topi (fun v1 ev1 => ?_)
  refine lv_sipush (v := 255) hx hb dX11_putNumber_28 (by decide) ?_
  refine lv_iand hx hb dX11_putNumber_31 ?_
  refine lv_topi (fun v2 ev2 => ?_)
  have iv2 : iv v2 0 255 := iv_eq ev2 (iv_and (x := v1) (iv_w (by decide : iv 255 255 255) (by decide) (by decide) : iv 255 0 255))
  refine va_iast hx hb hK hP hD hS 1 0 rfl rfl (iv_in (by decide : iv 8 8 8) (by decide) (by decide) : vp_in 8 2600) dX11_putNumber_32 (fun H locs hP hD hS => ?_)
  have hP : va_P (dC, dI) vwCl [(h0, .inr (11, [.ref h1, .ref h2, .ref h3, .ref h4, .ref h5, .int 8, .int 0])), (h1, .inl (y0, 2600, .inl (upd f0 (8 : Int32).toNatClampNeg v2)))] H := hP
  have hD : va_D A [(h0, .inr (11, [.ref h1, .ref h2, .ref h3, .ref h4, .ref h5, .int 8, .int 0])), (h1, .inl (y0, 2600, .inl (upd f0 (8 : Int32).toNatClampNeg v2)))] := hD
  obtain ⟨f3, ef3⟩ : ∃ z, z = upd f0 (8 : Int32).toNatClampNeg v2 := ⟨_, rfl⟩
  rw [← ef3] at hP hD
  have if3 : ∀ j, iv (f3 j) 0 255 := by rw [ef3]; exact iv_upd if0 iv2 (by decide) (by decide) (by decide) (by decide)
  refine lv_aload_n hx hb dX11_putNumber_33 rfl (lv_at hl 1 rfl) ?_
  refine lv_dup hx hb dX11_putNumber_34 rfl ?_
  refine va_get (D := (dC, dI)) (ci := 11) (v := .int 8) (C := RX11) (T := TX11) (N := 7) hx hb hG inGX11 hown hK hP 0 rfl rfl 5 (by decide) (hG _ wd_400) (fun _ h9 => h9) rfl dX11_putNumber_35 ?_
  refine lv_iconst (v := 1) hx hb dX11_putNumber_38 (by decide) ?_
  refine lv_iadd hx hb dX11_putNumber_39 ?_
  refine lv_val (y := 9) (by decide +kernel) ?_
  refine va_put (D := (dC, dI)) (ci := 11) (v := .int 9) (ty := .int) (C := RX11) (T := TX11) (N := 7) hx hb hG inGX11 tyX11 tyX11_ok nmX11 hown hK hP hD hS 0 rfl rfl 5 (by decide) (hG _ wd_400) (fun _ h9 => h9) rfl (by decide +kernel) rfl rfl (Nat.le_of_ble_eq_true rfl) dX11_putNumber_40 (fun H locs hP hD hS => ?_)
  have hP : va_P (dC, dI) vwCl [(h0, .inr (11, [.ref h1, .ref h2, .ref h3, .ref h4, .ref h5, .int 9, .int 0])), (h1, .inl (y0, 2600, .inl f3))] H := hP
  have hD : va_D A [(h0, .inr (11, [.ref h1, .ref h2, .ref h3, .ref h4, .ref h5, .int 9, .int 0])), (h1, .inl (y0, 2600, .inl f3))] := hD
  refine lv_iinc (v := 16) (lv' := [(2, .int 16), (0, .ref h0), (1, .int x0)]) hx hb dX11_putNumber_43 hl (k := 0) rfl (by decide) (by decide) rfl (fun ls hl => ?_)
  refine lv_goto (tgt := 3) hx hb dX11_putNumber_46 (by decide) ?_
  refine lv_iload_n hx hb dX11_putNumber_3 rfl (lv_at hl 0 rfl) ?_
  refine lv_if_lt (tgt := 49) hx hb dX11_putNumber_4 (by decide) (fun c => absurd c (by decide)) (fun _ => ?_)
  refine lv_aload_n hx hb dX11_putNumber_7 rfl (lv_at hl 1 rfl) ?_
  refine va_get (D := (dC, dI)) (ci := 11) (v := .int 9) (C := RX11) (T := TX11) (N := 7) hx hb hG inGX11 hown hK hP 0 rfl rfl 5 (by decide) (hG _ wd_400) (fun _ h9 => h9) rfl dX11_putNumber_8 ?_
  refine lv_sipush (v := 2600) hx hb dX11_putNumber_11 (by decide) ?_
  refine lv_icmp_ge (tgt := 43) hx hb dX11_putNumber_14 (by decide) (fun c => absurd c (by decide)) (fun _ => ?_)
  refine lv_aload_n hx hb dX11_putNumber_17 rfl (lv_at hl 1 rfl) ?_
  refine va_get (D := (dC, dI)) (ci := 11) (v := .ref h1) (C := RX11) (T := TX11) (N := 7) hx hb hG inGX11 hown hK hP 0 rfl rfl 0 (by decide) (hG _ wd_395) (fun _ h9 => h9) rfl dX11_putNumber_18 ?_
  refine lv_aload_n hx hb dX11_putNumber_21 rfl (lv_at hl 1 rfl) ?_
  refine va_get (D := (dC, dI)) (ci := 11) (v := .int 9) (C := RX11) (T := TX11) (N := 7) hx hb hG inGX11 hown hK hP 0 rfl rfl 5 (by decide) (hG _ wd_400) (fun _ h9 => h9) rfl dX11_putNumber_22 ?_
  refine lv_iload_n hx hb dX11_putNumber_25 rfl (lv_at hl 2 rfl) ?_
  refine lv_iload_n hx hb dX11_putNumber_26 rfl (lv_at hl 0 rfl) ?_
  refine lv_iushr (v := _) hx hb dX11_putNumber_27 rfl ?_
  refine lv_topi (fun v4 ev4 => ?_)
  refine lv_sipush (v := 255) hx hb dX11_putNumber_28 (by decide) ?_
  refine lv_iand hx hb dX11_putNumber_31 ?_
  refine lv_topi (fun v5 ev5 => ?_)
  have iv5 : iv v5 0 255 := iv_eq ev5 (iv_and (x := v4) (iv_w (by decide : iv 255 255 255) (by decide) (by decide) : iv 255 0 255))
  refine va_iast hx hb hK hP hD hS 1 0 rfl rfl (iv_in (by decide : iv 9 9 9) (by decide) (by decide) : vp_in 9 2600) dX11_putNumber_32 (fun H locs hP hD hS => ?_)
  have hP : va_P (dC, dI) vwCl [(h0, .inr (11, [.ref h1, .ref h2, .ref h3, .ref h4, .ref h5, .int 9, .int 0])), (h1, .inl (y0, 2600, .inl (upd f3 (9 : Int32).toNatClampNeg v5)))] H := hP
  have hD : va_D A [(h0, .inr (11, [.ref h1, .ref h2, .ref h3, .ref h4, .ref h5, .int 9, .int 0])), (h1, .inl (y0, 2600, .inl (upd f3 (9 : Int32).toNatClampNeg v5)))] := hD
  obtain ⟨f6, ef6⟩ : ∃ z, z = upd f3 (9 : Int32).toNatClampNeg v5 := ⟨_, rfl⟩
  rw [← ef6] at hP hD
  have if6 : ∀ j, iv (f6 j) 0 255 := by rw [ef6]; exact iv_upd if3 iv5 (by decide) (by decide) (by decide) (by decide)
  refine lv_aload_n hx hb dX11_putNumber_33 rfl (lv_at hl 1 rfl) ?_
  refine lv_dup hx hb dX11_putNumber_34 rfl ?_
  refine va_get (D := (dC, dI)) (ci := 11) (v := .int 9) (C := RX11) (T := TX11) (N := 7) hx hb hG inGX11 hown hK hP 0 rfl rfl 5 (by decide) (hG _ wd_400) (fun _ h9 => h9) rfl dX11_putNumber_35 ?_
  refine lv_iconst (v := 1) hx hb dX11_putNumber_38 (by decide) ?_
  refine lv_iadd hx hb dX11_putNumber_39 ?_
  refine lv_val (y := 10) (by decide +kernel) ?_
  refine va_put (D := (dC, dI)) (ci := 11) (v := .int 10) (ty := .int) (C := RX11) (T := TX11) (N := 7) hx hb hG inGX11 tyX11 tyX11_ok nmX11 hown hK hP hD hS 0 rfl rfl 5 (by decide) (hG _ wd_400) (fun _ h9 => h9) rfl (by decide +kernel) rfl rfl (Nat.le_of_ble_eq_true rfl) dX11_putNumber_40 (fun H locs hP hD hS => ?_)
  have hP : va_P (dC, dI) vwCl [(h0, .inr (11, [.ref h1, .ref h2, .ref h3, .ref h4, .ref h5, .int 10, .int 0])), (h1, .inl (y0, 2600, .inl f6))] H := hP
  have hD : va_D A [(h0, .inr (11, [.ref h1, .ref h2, .ref h3, .ref h4, .ref h5, .int 10, .int 0])), (h1, .inl (y0, 2600, .inl f6))] := hD
  refine lv_iinc (v := 8) (lv' := [(2, .int 8), (0, .ref h0), (1, .int x0)]) hx hb dX11_putNumber_43 hl (k := 0) rfl (by decide) (by decide) rfl (fun ls hl => ?_)
  refine lv_goto (tgt := 3) hx hb dX11_putNumber_46 (by decide) ?_
  refine lv_iload_n hx hb dX11_putNumber_3 rfl (lv_at hl 0 rfl) ?_
  refine lv_if_lt (tgt := 49) hx hb dX11_putNumber_4 (by decide) (fun c => absurd c (by decide)) (fun _ => ?_)
  refine lv_aload_n hx hb dX11_putNumber_7 rfl (lv_at hl 1 rfl) ?_
  refine va_get (D := (dC, dI)) (ci := 11) (v := .int 10) (C := RX11) (T := TX11) (N := 7) hx hb hG inGX11 hown hK hP 0 rfl rfl 5 (by decide) (hG _ wd_400) (fun _ h9 => h9) rfl dX11_putNumber_8 ?_
  refine lv_sipush (v := 2600) hx hb dX11_putNumber_11 (by decide) ?_
  refine lv_icmp_ge (tgt := 43) hx hb dX11_putNumber_14 (by decide) (fun c => absurd c (by decide)) (fun _ => ?_)
  refine lv_aload_n hx hb dX11_putNumber_17 rfl (lv_at hl 1 rfl) ?_
  refine va_get (D := (dC, dI)) (ci := 11) (v := .ref h1) (C := RX11) (T := TX11) (N := 7) hx hb hG inGX11 hown hK hP 0 rfl rfl 0 (by decide) (hG _ wd_395) (fun _ h9 => h9) rfl dX11_putNumber_18 ?_
  refine lv_aload_n hx hb dX11_putNumber_21 rfl (lv_at hl 1 rfl) ?_
  refine va_get (D := (dC, dI)) (ci := 11) (v := .int 10) (C := RX11) (T := TX11) (N := 7) hx hb hG inGX11 hown hK hP 0 rfl rfl 5 (by decide) (hG _ wd_400) (fun _ h9 => h9) rfl dX11_putNumber_22 ?_
  refine lv_iload_n hx hb dX11_putNumber_25 rfl (lv_at hl 2 rfl) ?_
  refine lv_iload_n hx hb dX11_putNumber_26 rfl (lv_at hl 0 rfl) ?_
  refine lv_iushr (v := _) hx hb dX11_putNumber_27 rfl ?_
  refine lv_topi (fun v7 ev7 => ?_)
  refine lv_sipush (v := 255) hx hb dX11_putNumber_28 (by decide) ?_
  refine lv_iand hx hb dX11_putNumber_31 ?_
  refine lv_topi (fun v8 ev8 => ?_)
  have iv8 : iv v8 0 255 := iv_eq ev8 (iv_and (x := v7) (iv_w (by decide : iv 255 255 255) (by decide) (by decide) : iv 255 0 255))
  refine va_iast hx hb hK hP hD hS 1 0 rfl rfl (iv_in (by decide : iv 10 10 10) (by decide) (by decide) : vp_in 10 2600) dX11_putNumber_32 (fun H locs hP hD hS => ?_)
  have hP : va_P (dC, dI) vwCl [(h0, .inr (11, [.ref h1, .ref h2, .ref h3, .ref h4, .ref h5, .int 10, .int 0])), (h1, .inl (y0, 2600, .inl (upd f6 (10 : Int32).toNatClampNeg v8)))] H := hP
  have hD : va_D A [(h0, .inr (11, [.ref h1, .ref h2, .ref h3, .ref h4, .ref h5, .int 10, .int 0])), (h1, .inl (y0, 2600, .inl (upd f6 (10 : Int32).toNatClampNeg v8)))] := hD
  obtain ⟨f9, ef9⟩ : ∃ z, z = upd f6 (10 : Int32).toNatClampNeg v8 := ⟨_, rfl⟩
  rw [← ef9] at hP hD
  have if9 : ∀ j, iv (f9 j) 0 255 := by rw [ef9]; exact iv_upd if6 iv8 (by decide) (by decide) (by decide) (by decide)
  refine lv_aload_n hx hb dX11_putNumber_33 rfl (lv_at hl 1 rfl) ?_
  refine lv_dup hx hb dX11_putNumber_34 rfl ?_
  refine va_get (D := (dC, dI)) (ci := 11) (v := .int 10) (C := RX11) (T := TX11) (N := 7) hx hb hG inGX11 hown hK hP 0 rfl rfl 5 (by decide) (hG _ wd_400) (fun _ h9 => h9) rfl dX11_putNumber_35 ?_
  refine lv_iconst (v := 1) hx hb dX11_putNumber_38 (by decide) ?_
  refine lv_iadd hx hb dX11_putNumber_39 ?_
  refine lv_val (y := 11) (by decide +kernel) ?_
  refine va_put (D := (dC, dI)) (ci := 11) (v := .int 11) (ty := .int) (C := RX11) (T := TX11) (N := 7) hx hb hG inGX11 tyX11 tyX11_ok nmX11 hown hK hP hD hS 0 rfl rfl 5 (by decide) (hG _ wd_400) (fun _ h9 => h9) rfl (by decide +kernel) rfl rfl (Nat.le_of_ble_eq_true rfl) dX11_putNumber_40 (fun H locs hP hD hS => ?_)
  have hP : va_P (dC, dI) vwCl [(h0, .inr (11, [.ref h1, .ref h2, .ref h3, .ref h4, .ref h5, .int 11, .int 0])), (h1, .inl (y0, 2600, .inl f9))] H := hP
  have hD : va_D A [(h0, .inr (11, [.ref h1, .ref h2, .ref h3, .ref h4, .ref h5, .int 11, .int 0])), (h1, .inl (y0, 2600, .inl f9))] := hD
  refine lv_iinc (v := 0) (lv' := [(2, .int 0), (0, .ref h0), (1, .int x0)]) hx hb dX11_putNumber_43 hl (k := 0) rfl (by decide) (by decide) rfl (fun ls hl => ?_)
  refine lv_goto (tgt := 3) hx hb dX11_putNumber_46 (by decide) ?_
  refine lv_iload_n hx hb dX11_putNumber_3 rfl (lv_at hl 0 rfl) ?_
  refine lv_if_lt (tgt := 49) hx hb dX11_putNumber_4 (by decide) (fun c => absurd c (by decide)) (fun _ => ?_)
  refine lv_aload_n hx hb dX11_putNumber_7 rfl (lv_at hl 1 rfl) ?_
  refine va_get (D := (dC, dI)) (ci := 11) (v := .int 11) (C := RX11) (T := TX11) (N := 7) hx hb hG inGX11 hown hK hP 0 rfl rfl 5 (by decide) (hG _ wd_400) (fun _ h9 => h9) rfl dX11_putNumber_8 ?_
  refine lv_sipush (v := 2600) hx hb dX11_putNumber_11 (by decide) ?_
  refine lv_icmp_ge (tgt := 43) hx hb dX11_putNumber_14 (by decide) (fun c => absurd c (by decide)) (fun _ => ?_)
  refine lv_aload_n hx hb dX11_putNumber_17 rfl (lv_at hl 1 rfl) ?_
  refine va_get (D := (dC, dI)) (ci := 11) (v := .ref h1) (C := RX11) (T := TX11) (N := 7) hx hb hG inGX11 hown hK hP 0 rfl rfl 0 (by decide) (hG _ wd_395) (fun _ h9 => h9) rfl dX11_putNumber_18 ?_
  refine lv_aload_n hx hb dX11_putNumber_21 rfl (lv_at hl 1 rfl) ?_
  refine va_get (D := (dC, dI)) (ci := 11) (v := .int 11) (C := RX11) (T := TX11) (N := 7) hx hb hG inGX11 hown hK hP 0 rfl rfl 5 (by decide) (hG _ wd_400) (fun _ h9 => h9) rfl dX11_putNumber_22 ?_
  refine lv_iload_n hx hb dX11_putNumber_25 rfl (lv_at hl 2 rfl) ?_
  refine lv_iload_n hx hb dX11_putNumber_26 rfl (lv_at hl 0 rfl) ?_
  refine lv_iushr (v := _) hx hb dX11_putNumber_27 rfl ?_
  refine lv_topi (fun v10 ev10 => ?_)
  refine lv_sipush (v := 255) hx hb dX11_putNumber_28 (by decide) ?_
  refine lv_iand hx hb dX11_putNumber_31 ?_
  refine lv_topi (fun v11 ev11 => ?_)
  have iv11 : iv v11 0 255 := iv_eq ev11 (iv_and (x := v10) (iv_w (by decide : iv 255 255 255) (by decide) (by decide) : iv 255 0 255))
  refine va_iast hx hb hK hP hD hS 1 0 rfl rfl (iv_in (by decide : iv 11 11 11) (by decide) (by decide) : vp_in 11 2600) dX11_putNumber_32 (fun H locs hP hD hS => ?_)
  have hP : va_P (dC, dI) vwCl [(h0, .inr (11, [.ref h1, .ref h2, .ref h3, .ref h4, .ref h5, .int 11, .int 0])), (h1, .inl (y0, 2600, .inl (upd f9 (11 : Int32).toNatClampNeg v11)))] H := hP
  have hD : va_D A [(h0, .inr (11, [.ref h1, .ref h2, .ref h3, .ref h4, .ref h5, .int 11, .int 0])), (h1, .inl (y0, 2600, .inl (upd f9 (11 : Int32).toNatClampNeg v11)))] := hD
  obtain ⟨f12, ef12⟩ : ∃ z, z = upd f9 (11 : Int32).toNatClampNeg v11 := ⟨_, rfl⟩
  rw [← ef12] at hP hD
  have if12 : ∀ j, iv (f12 j) 0 255 := by rw [ef12]; exact iv_upd if9 iv11 (by decide) (by decide) (by decide) (by decide)
  refine lv_aload_n hx hb dX11_putNumber_33 rfl (lv_at hl 1 rfl) ?_
  refine lv_dup hx hb dX11_putNumber_34 rfl ?_
  refine va_get (D := (dC, dI)) (ci := 11) (v := .int 11) (C := RX11) (T := TX11) (N := 7) hx hb hG inGX11 hown hK hP 0 rfl rfl 5 (by decide) (hG _ wd_400) (fun _ h9 => h9) rfl dX11_putNumber_35 ?_
  refine lv_iconst (v := 1) hx hb dX11_putNumber_38 (by decide) ?_
  refine lv_iadd hx hb dX11_putNumber_39 ?_
  refine lv_val (y := 12) (by decide +kernel) ?_
  refine va_put (D := (dC, dI)) (ci := 11) (v := .int 12) (ty := .int) (C := RX11) (T := TX11) (N := 7) hx hb hG inGX11 tyX11 tyX11_ok nmX11 hown hK hP hD hS 0 rfl rfl 5 (by decide) (hG _ wd_400) (fun _ h9 => h9) rfl (by decide +kernel) rfl rfl (Nat.le_of_ble_eq_true rfl) dX11_putNumber_40 (fun H locs hP hD hS => ?_)
  have hP : va_P (dC, dI) vwCl [(h0, .inr (11, [.ref h1, .ref h2, .ref h3, .ref h4, .ref h5, .int 12, .int 0])), (h1, .inl (y0, 2600, .inl f12))] H := hP
  have hD : va_D A [(h0, .inr (11, [.ref h1, .ref h2, .ref h3, .ref h4, .ref h5, .int 12, .int 0])), (h1, .inl (y0, 2600, .inl f12))] := hD
  refine lv_iinc (v := (-8)) (lv' := [(2, .int (-8)), (0, .ref h0), (1, .int x0)]) hx hb dX11_putNumber_43 hl (k := 0) rfl (by decide) (by decide) rfl (fun ls hl => ?_)
  refine lv_goto (tgt := 3) hx hb dX11_putNumber_46 (by decide) ?_
  refine lv_iload_n hx hb dX11_putNumber_3 rfl (lv_at hl 0 rfl) ?_
  refine lv_if_lt (tgt := 49) hx hb dX11_putNumber_4 (by decide) (fun _ => ?_) (fun c => absurd (by decide) c)
  have hP9 := hP.sub (ws' := [(h0, .inr (11, [.ref h1, .ref h2, .ref h3, .ref h4, .ref h5, .int 12, .int 0])), (h1, .inl (y0, 2600, .inl f12))]) [0, 1] rfl
  have hD9 := hD.sub (ws' := [(h0, .inr (11, [.ref h1, .ref h2, .ref h3, .ref h4, .ref h5, .int 12, .int 0])), (h1, .inl (y0, 2600, .inl f12))]) [0, 1] (by decide) rfl
  have hK9 := hK.sub (tys' := [(y0, .int)]) [0] rfl
  exact W.vret hx hb hr (fun t ht hW => ⟨⟨f12, rfl, ⟨(fun j => iv_w (if12 j) (by decide) (by decide)), trivial⟩, by rw [ht]; exact hP9, va_K.moved hW.alike hK9, hD9⟩, hS.F ht⟩) hS.2.2 dX11_putNumber_49
set_option maxHeartbeats 4000000 in
set_option maxRecDepth 100000 in
theorem cX11_putNumber_4 (l : Launch) (dC : Nat → ClassId) (dI : Nat → Nat → Nat) (h0 h1 h2 h3 h4 h5 : Nat) (y0 : ClassId) (sz : Nat) (x0 : Int32) (f0 : Nat → Int32) (if0 : ∀ j, iv (f0 j) 0 255) : Met l yX11_putNumber (Cond.code yX11_putNumber cX11_putNumber 3 none :: lw_G) ({ frames := 0, cells := 0, slots := 0, locals := 0 }) (va_Pc [.ref h0, .int x0] (fun U => U.heap.size = sz ∧ va_P (dC, dI) vwCl [(h0, .inr (11, [.ref h1, .ref h2, .ref h3, .ref h4, .ref h5, .int 12, .int 0])), (h1, .inl (y0, 2600, .inl f0))] U.heap ∧ va_K (dC, dI) vwCl [(y0, .int)] U ∧ va_D (fun _ => True) [(h0, .inr (11, [.ref h1, .ref h2, .ref h3, .ref h4, .ref h5, .int 12, .int 0])), (h1, .inl (y0, 2600, .inl f0))])) (va_Qv (fun (u : (Nat → Int32)) => (∀ j, iv (u j) 0 255) ∧ True) (fun (u : (Nat → Int32)) (t : State) => va_P (dC, dI) vwCl [(h0, .inr (11, [.ref h1, .ref h2, .ref h3, .ref h4, .ref h5, .int 16, .int 0])), (h1, .inl (y0, 2600, .inl u))] t.heap ∧ va_K (dC, dI) vwCl [(y0, .int)] t ∧ va_D (va_A [(h0, .inr (11, [.ref h1, .ref h2, .ref h3, .ref h4, .ref h5, .int 12, .int 0])), (h1, .inl (y0, 2600, .inl f0))] sz) [(h0, .inr (11, [.ref h1, .ref h2, .ref h3, .ref h4, .ref h5, .int 16, .int 0])), (h1, .inl (y0, 2600, .inl u))]) (va_A [(h0, .inr (11, [.ref h1, .ref h2, .ref h3, .ref h4, .ref h5, .int 12, .int 0])), (h1, .inl (y0, 2600, .inl f0))] sz)) 0 0 (va_A [(h0, .inr (11, [.ref h1, .ref h2, .ref h3, .ref h4, .ref h5, .int 12, .int 0])), (h1, .inl (y0, 2600, .inl f0))] sz) := by
  refine Met.ofW (cc := cX11_putNumber) (maxL := 3) (ret := none) (by decide) rfl ?_
  intro p e s m args below meth c s₁ B hml hv
  obtain ⟨rfl, hsz, hP, hK, hD0⟩ := hv
  have hx := B.exec
  have hb := B.bytes
  have hr := B.returns
  have hts0 := atoms_spec (ws := Cond.code yX11_putNumber cX11_putNumber 3 none :: lw_G) B.pre
  have hG : ∀ w ∈ lw_G, w.before _ s = true := fun w h => hts0 w (List.mem_cons_of_mem _ h)
  have hown : s.vm.findClass RX11 = some m.cls := findClass_of_methodNamed B.named
  have hlocks := B.notSynchronized
  subst hsz
  have hD := hD0.self (sz := s.heap.size)
  generalize hAe : va_A [(h0, .inr (11, [.ref h1, .ref h2, .ref h3, .ref h4, .ref h5, .int 12, .int 0])), (h1, .inl (y0, 2600, .inl f0))] s.heap.size = A at hD ⊢
  have hA : ∀ q : Nat, s.heap.size ≤ q → A q := fun q h => by rw [← hAe]; exact Or.inr h
  have hS : va_S A s.heap s.heap [] := va_S.rf
  have hP : va_P (dC, dI) vwCl [(h0, .inr (11, [.ref h1, .ref h2, .ref h3, .ref h4, .ref h5, .int 12, .int 0])), (h1, .inl (y0, 2600, .inl f0))] s.heap := hP
  have hl := lv_entry ([.ref h0, .int x0]) (n := 3) (Nat.le_of_ble_eq_true rfl)
  rw [lg_entry_eq]
  generalize (lg_sl ([.ref h0, .int x0]) ++ List.replicate (3 - (lg_sl ([.ref h0, .int x0])).length) Slot.unset).toArray = ls at hl ⊢
  have hl : lv_has ls 3 [(0, .ref h0), (1, .int x0)] := hl
  refine lv_bipush (v := 24) hx hb dX11_putNumber_0 (by decide) ?_
  refine lv_istore_n (lv' := [(2, .int 24), (0, .ref h0), (1, .int x0)]) hx hb dX11_putNumber_2 rfl hl (by decide) rfl (fun ls hl => ?_)
  refine lv_iload_n hx hb dX11_putNumber_3 rfl (lv_at hl 0 rfl) ?_
  refine lv_if_lt (tgt := 49) hx hb dX11_putNumber_4 (by decide) (fun c => absurd c (by decide)) (fun _ => ?_)
  refine lv_aload_n hx hb dX11_putNumber_7 rfl (lv_at hl 1 rfl) ?_
  refine va_get (D := (dC, dI)) (ci := 11) (v := .int 12) (C := RX11) (T := TX11) (N := 7) hx hb hG inGX11 hown hK hP 0 rfl rfl 5 (by decide) (hG _ wd_400) (fun _ h9 => h9) rfl dX11_putNumber_8 ?_
  refine lv_sipush (v := 2600) hx hb dX11_putNumber_11 (by decide) ?_
  refine lv_icmp_ge (tgt := 43) hx hb dX11_putNumber_14 (by decide) (fun c => absurd c (by decide)) (fun _ => ?_)
  refine lv_aload_n hx hb dX11_putNumber_17 rfl (lv_at hl 1 rfl) ?_
  refine va_get (D := (dC, dI)) (ci := 11) (v := .ref h1) (C := RX11) (T := TX11) (N := 7) hx hb hG inGX11 hown hK hP 0 rfl rfl 0 (by decide) (hG _ wd_395) (fun _ h9 => h9) rfl dX11_putNumber_18 ?_
  refine lv_aload_n hx hb dX11_putNumber_21 rfl (lv_at hl 1 rfl) ?_
  refine va_get (D := (dC, dI)) (ci := 11) (v := .int 12) (C := RX11) (T := TX11) (N := 7) hx hb hG inGX11 hown hK hP 0 rfl rfl 5 (by decide) (hG _ wd_400) (fun _ h9 => h9) rfl dX11_putNumber_22 ?_
  refine lv_iload_n hx hb dX11_putNumber_25 rfl (lv_at hl 2 rfl) ?_
  refine lv_iload_n hx hb dX11_putNumber_26 rfl (lv_at hl 0 rfl) ?_
  refine lv_iushr (v := _) hx hb dX11_putNumber_27 rfl ?_
  refine lv_topi (fun v1 ev1 => ?_)
  refine lv_sipush (v := 255) hx hb dX11_putNumber_28 (by decide) ?_
  refine lv_iand hx hb dX11_putNumber_31 ?_
  refine lv_topi (fun v2 ev2 => ?_)
  have iv2 : iv v2 0 255 := iv_eq ev2 (iv_and (x := v1) (iv_w (by decide : iv 255 255 255) (by decide) (by decide) : iv 255 0 255))
  refine va_iast hx hb hK hP hD hS 1 0 rfl rfl (iv_in (by decide : iv 12 12 12) (by decide) (by decide) : vp_in 12 2600) dX11_putNumber_32 (fun H locs hP hD hS => ?_)
  have hP : va_P (dC, dI) vwCl [(h0, .inr (11, [.ref h1, .ref h2, .ref h3, .ref h4, .ref h5, .int 12, .int 0])), (h1, .inl (y0, 2600, .inl (upd f0 (12 : Int32).toNatClampNeg v2)))] H := hP
  have hD : va_D A [(h0, .inr (11, [.ref h1, .ref h2, .ref h3, .ref h4, .ref h5, .int 12, .int 0])), (h1, .inl (y0, 2600, .inl (upd f0 (12 : Int32).toNatClampNeg v2)))] := hD
  obtain ⟨f3, ef3⟩ : ∃ z, z = upd f0 (12 : Int32).toNatClampNeg v2 := ⟨_, rfl⟩
  rw [← ef3] at hP hD
  have if3 : ∀ j, iv (f3 j) 0 255 := by rw [ef3]; exact iv_upd if0 iv2 (by decide) (by decide) (by decide) (by decide)
  refine lv_aload_n hx hb dX11_putNumber_33 rfl (lv_at hl 1 rfl) ?_
  refine lv_dup hx hb dX11_putNumber_34 rfl ?_
  refine va_get (D := (dC, dI)) (ci := 11) (v := .int 12) (C := RX11) (T := TX11) (N := 7) hx hb hG inGX11 hown hK hP 0 rfl rfl 5 (by decide) (hG _ wd_400) (fun _ h9 => h9) rfl dX11_putNumber_35 ?_
  refine lv_iconst (v := 1) hx hb dX11_putNumber_38 (by decide) ?_
  refine lv_iadd hx hb dX11_putNumber_39 ?_
  refine lv_val (y := 13) (by decide +kernel) ?_
  refine va_put (D := (dC, dI)) (ci := 11) (v := .int 13) (ty := .int) (C := RX11) (T := TX11) (N := 7) hx hb hG inGX11 tyX11 tyX11_ok nmX11 hown hK hP hD hS 0 rfl rfl 5 (by decide) (hG _ wd_400) (fun _ h9 => h9) rfl (by decide +kernel) rfl rfl (Nat.le_of_ble_eq_true rfl) dX11_putNumber_40 (fun H locs hP hD hS => ?_)
  have hP : va_P (dC, dI) vwCl [(h0, .inr (11, [.ref h1, .ref h2, .ref h3, .ref h4, .ref h5, .int 13, .int 0])), (h1, .inl (y0, 2600, .inl f3))] H := hP
  have hD : va_D A [(h0, .inr (11, [.ref h1, .ref h2, .ref h3, .ref h4, .ref h5, .int 13, .int 0])), (h1, .inl (y0, 2600, .inl f3))] := hD
  refine lv_iinc (v := 16) (lv' := [(2, .int 16), (0, .ref h0), (1, .int x0)]) hx hb dX11_putNumber_43 hl (k := 0) rfl (by decide) (by decide) rfl (fun ls hl => ?_)
  refine lv_goto (tgt := 3) hx hb dX11_putNumber_46 (by decide) ?_
  refine lv_iload_n hx hb dX11_putNumber_3 rfl (lv_at hl 0 rfl) ?_
  refine lv_if_lt (tgt := 49) hx hb dX11_putNumber_4 (by decide) (fun c => absurd c (by decide)) (fun _ => ?_)
  refine lv_aload_n hx hb dX11_putNumber_7 rfl (lv_at hl 1 rfl) ?_
  refine va_get (D := (dC, dI)) (ci := 11) (v := .int 13) (C := RX11) (T := TX11) (N := 7) hx hb hG inGX11 hown hK hP 0 rfl rfl 5 (by decide) (hG _ wd_400) (fun _ h9 => h9) rfl dX11_putNumber_8 ?_
  refine lv_sipush (v := 2600) hx hb dX11_putNumber_11 (by decide) ?_
  refine lv_icmp_ge (tgt := 43) hx hb dX11_putNumber_14 (by decide) (fun c => absurd c (by decide)) (fun _ => ?_)
  refine lv_aload_n hx hb dX11_putNumber_17 rfl (lv_at hl 1 rfl) ?_
  refine va_get (D := (dC, dI)) (ci := 11) (v := .ref h1) (C := RX11) (T := TX11) (N := 7) hx hb hG inGX11 hown hK hP 0 rfl rfl 0 (by decide) (hG _ wd_395) (fun _ h9 => h9) rfl dX11_putNumber_18 ?_
  refine lv_aload_n hx hb dX11_putNumber_21 rfl (lv_at hl 1 rfl) ?_
  refine va_get (D := (dC, dI)) (ci := 11) (v := .int 13) (C := RX11) (T := TX11) (N := 7) hx hb hG inGX11 hown hK hP 0 rfl rfl 5 (by decide) (hG _ wd_400) (fun _ h9 => h9) rfl dX11_putNumber_22 ?_
  refine lv_iload_n hx hb dX11_putNumber_25 rfl (lv_at hl 2 rfl) ?_
  refine lv_iload_n hx hb dX11_putNumber_26 rfl (lv_at hl 0 rfl) ?_
  refine lv_iushr (v := _) hx hb dX11_putNumber_27 rfl ?_
  refine lv_topi (fun v4 ev4 => ?_)
  refine lv_sipush (v := 255) hx hb dX11_putNumber_28 (by decide) ?_
  refine lv_iand hx hb dX11_putNumber_31 ?_
  refine lv_topi (fun v5 ev5 => ?_)
  have iv5 : iv v5 0 255 := iv_eq ev5 (iv_and (x := v4) (iv_w (by decide : iv 255 255 255) (by decide) (by decide) : iv 255 0 255))
  refine va_iast hx hb hK hP hD hS 1 0 rfl rfl (iv_in (by decide : iv 13 13 13) (by decide) (by decide) : vp_in 13 2600) dX11_putNumber_32 (fun H locs hP hD hS => ?_)
  have hP : va_P (dC, dI) vwCl [(h0, .inr (11, [.ref h1, .ref h2, .ref h3, .ref h4, .ref h5, .int 13, .int 0])), (h1, .inl (y0, 2600, .inl (upd f3 (13 : Int32).toNatClampNeg v5)))] H := hP
  have hD : va_D A [(h0, .inr (11, [.ref h1, .ref h2, .ref h3, .ref h4, .ref h5, .int 13, .int 0])), (h1, .inl (y0, 2600, .inl (upd f3 (13 : Int32).toNatClampNeg v5)))] := hD
  obtain ⟨f6, ef6⟩ : ∃ z, z = upd f3 (13 : Int32).toNatClampNeg v5 := ⟨_, rfl⟩
  rw [← ef6] at hP hD
  have if6 : ∀ j, iv (f6 j) 0 255 := by rw [ef6]; exact iv_upd if3 iv5 (by decide) (by decide) (by decide) (by decide)
  refine lv_aload_n hx hb dX11_putNumber_33 rfl (lv_at hl 1 rfl) ?_
  refine lv_dup hx hb dX11_putNumber_34 rfl ?_
  refine va_get (D := (dC, dI)) (ci := 11) (v := .int 13) (C := RX11) (T := TX11) (N := 7) hx hb hG inGX11 hown hK hP 0 rfl rfl 5 (by decide) (hG _ wd_400) (fun _ h9 => h9) rfl dX11_putNumber_35 ?_
  refine lv_iconst (v := 1) hx hb dX11_putNumber_38 (by decide) ?_
  refine lv_iadd hx hb dX11_putNumber_39 ?_
  refine lv_val (y := 14) (by decide +kernel) ?_
  refine va_put (D := (dC, dI)) (ci := 11) (v := .int 14) (ty := .int) (C := RX11) (T := TX11) (N := 7) hx hb hG inGX11 tyX11 tyX11_ok nmX11 hown hK hP hD hS 0 rfl rfl 5 (by decide) (hG _ wd_400) (fun _ h9 => h9) rfl (by decide +kernel) rfl rfl (Nat.le_of_ble_eq_true rfl) dX11_putNumber_40 (fun H locs hP hD hS => ?_)
  have hP : va_P (dC, dI) vwCl [(h0, .inr (11, [.ref h1, .ref h2, .ref h3, .ref h4, .ref h5, .int 14, .int 0])), (h1, .inl (y0, 2600, .inl f6))] H := hP
  have hD : va_D A [(h0, .inr (11, [.ref h1, .ref h2, .ref h3, .ref h4, .ref h5, .int 14, .int 0])), (h1, .inl (y0, 2600, .inl f6))] := hD
  refine lv_iinc (v := 8) (lv' := [(2, .int 8), (0, .ref h0), (1, .int x0)]) hx hb dX11_putNumber_43 hl (k := 0) rfl (by decide) (by decide) rfl (fun ls hl => ?_)
  refine lv_goto (tgt := 3) hx hb dX11_putNumber_46 (by decide) ?_
  refine lv_iload_n hx hb dX11_putNumber_3 rfl (lv_at hl 0 rfl) ?_
  refine lv_if_lt (tgt := 49) hx hb dX11_putNumber_4 (by decide) (fun c => absurd c (by decide)) (fun _ => ?_)
  refine lv_aload_n hx hb dX11_putNumber_7 rfl (lv_at hl 1 rfl) ?_
  refine va_get (D := (dC, dI)) (ci := 11) (v := .int 14) (C := RX11) (T := TX11) (N := 7) hx hb hG inGX11 hown hK hP 0 rfl rfl 5 (by decide) (hG _ wd_400) (fun _ h9 => h9) rfl dX11_putNumber_8 ?_
  refine lv_sipush (v := 2600) hx hb dX11_putNumber_11 (by decide) ?_
  refine lv_icmp_ge (tgt := 43) hx hb dX11_putNumber_14 (by decide) (fun c => absurd c (by decide)) (fun _ => ?_)
  refine lv_aload_n hx hb dX11_putNumber_17 rfl (lv_at hl 1 rfl) ?_
  refine va_get (D := (dC, dI)) (ci := 11) (v := .ref h1) (C := RX11) (T := TX11) (N := 7) hx hb hG inGX11 hown hK hP 0 rfl rfl 0 (by decide) (hG _ wd_395) (fun _ h9 => h9) rfl dX11_putNumber_18 ?_
  refine lv_aload_n hx hb dX11_putNumber_21 rfl (lv_at hl 1 rfl) ?_
  refine va_get (D := (dC, dI)) (ci := 11) (v := .int 14) (C := RX11) (T := TX11) (N := 7) hx hb hG inGX11 hown hK hP 0 rfl rfl 5 (by decide) (hG _ wd_400) (fun _ h9 => h9) rfl dX11_putNumber_22 ?_
  refine lv_iload_n hx hb dX11_putNumber_25 rfl (lv_at hl 2 rfl) ?_
  refine lv_iload_n hx hb dX11_putNumber_26 rfl (lv_at hl 0 rfl) ?_
  refine lv_iushr (v := _) hx hb dX11_putNumber_27 rfl ?_
  refine lv_topi (fun v7 ev7 => ?_)
  refine lv_sipush (v := 255) hx hb dX11_putNumber_28 (by decide) ?_
  refine lv_iand hx hb dX11_putNumber_31 ?_
  refine lv_topi (fun v8 ev8 => ?_)
  have iv8 : iv v8 0 255 := iv_eq ev8 (iv_and (x := v7) (iv_w (by decide : iv 255 255 255) (by decide) (by decide) : iv 255 0 255))
  refine va_iast hx hb hK hP hD hS 1 0 rfl rfl (iv_in (by decide : iv 14 14 14) (by decide) (by decide) : vp_in 14 2600) dX11_putNumber_32 (fun H locs hP hD hS => ?_)
  have hP : va_P (dC, dI) vwCl [(h0, .inr (11, [.ref h1, .ref h2, .ref h3, .ref h4, .ref h5, .int 14, .int 0])), (h1, .inl (y0, 2600, .inl (upd f6 (14 : Int32).toNatClampNeg v8)))] H := hP
  have hD : va_D A [(h0, .inr (11, [.ref h1, .ref h2, .ref h3, .ref h4, .ref h5, .int 14, .int 0])), (h1, .inl (y0, 2600, .inl (upd f6 (14 : Int32).toNatClampNeg v8)))] := hD
  obtain ⟨f9, ef9⟩ : ∃ z, z = upd f6 (14 : Int32).toNatClampNeg v8 := ⟨_, rfl⟩
  rw [← ef9] at hP hD
  have if9 : ∀ j, iv (f9 j) 0 255 := by rw [ef9]; exact iv_upd if6 iv8 (by decide) (by decide) (by decide) (by decide)
  refine lv_aload_n hx hb dX11_putNumber_33 rfl (lv_at hl 1 rfl) ?_
  refine lv_dup hx hb dX11_putNumber_34 rfl ?_
  refine va_get (D := (dC, dI)) (ci := 11) (v := .int 14) (C := RX11) (T := TX11) (N := 7) hx hb hG inGX11 hown hK hP 0 rfl rfl 5 (by decide) (hG _ wd_400) (fun _ h9 => h9) rfl dX11_putNumber_35 ?_
  refine lv_iconst (v := 1) hx hb dX11_putNumber_38 (by decide) ?_
  refine lv_iadd hx hb dX11_putNumber_39 ?_
  refine lv_val (y := 15) (by decide +kernel) ?_
  refine va_put (D := (dC, dI)) (ci := 11) (v := .int 15) (ty := .int) (C := RX11) (T := TX11) (N := 7) hx hb hG inGX11 tyX11 tyX11_ok nmX11 hown hK hP hD hS 0 rfl rfl 5 (by decide) (hG _ wd_400) (fun _ h9 => h9) rfl (by decide +kernel) rfl rfl (Nat.le_of_ble_eq_true rfl) dX11_putNumber_40 (fun H locs hP hD hS => ?_)
  have hP : va_P (dC, dI) vwCl [(h0, .inr (11, [.ref h1, .ref h2, .ref h3, .ref h4, .ref h5, .int 15, .int 0])), (h1, .inl (y0, 2600, .inl f9))] H := hP
  have hD : va_D A [(h0, .inr (11, [.ref h1, .ref h2, .ref h3, .ref h4, .ref h5, .int 15, .int 0])), (h1, .inl (y0, 2600, .inl f9))] := hD
  refine lv_iinc (v := 0) (lv' := [(2, .int 0), (0, .ref h0), (1, .int x0)]) hx hb dX11_putNumber_43 hl (k := 0) rfl (by decide) (by decide) rfl (fun ls hl => ?_)
  refine lv_goto (tgt := 3) hx hb dX11_putNumber_46 (by decide) ?_
  refine lv_iload_n hx hb dX11_putNumber_3 rfl (lv_at hl 0 rfl) ?_
  refine lv_if_lt (tgt := 49) hx hb dX11_putNumber_4 (by decide) (fun c => absurd c (by decide)) (fun _ => ?_)
  refine lv_aload_n hx hb dX11_putNumber_7 rfl (lv_at hl 1 rfl) ?_
  refine va_get (D := (dC, dI)) (ci := 11) (v := .int 15) (C := RX11) (T := TX11) (N := 7) hx hb hG inGX11 hown hK hP 0 rfl rfl 5 (by decide) (hG _ wd_400) (fun _ h9 => h9) rfl dX11_putNumber_8 ?_
  refine lv_sipush (v := 2600) hx hb dX11_putNumber_11 (by decide) ?_
  refine lv_icmp_ge (tgt := 43) hx hb dX11_putNumber_14 (by decide) (fun c => absurd c (by decide)) (fun _ => ?_)
  refine lv_aload_n hx hb dX11_putNumber_17 rfl (lv_at hl 1 rfl) ?_
  refine va_get (D := (dC, dI)) (ci := 11) (v := .ref h1) (C := RX11) (T := TX11) (N := 7) hx hb hG inGX11 hown hK hP 0 rfl rfl 0 (by decide) (hG _ wd_395) (fun _ h9 => h9) rfl dX11_putNumber_18 ?_
  refine lv_aload_n hx hb dX11_putNumber_21 rfl (lv_at hl 1 rfl) ?_
  refine va_get (D := (dC, dI)) (ci := 11) (v := .int 15) (C := RX11) (T := TX11) (N := 7) hx hb hG inGX11 hown hK hP 0 rfl rfl 5 (by decide) (hG _ wd_400) (fun _ h9 => h9) rfl dX11_putNumber_22 ?_
  refine lv_iload_n hx hb dX11_putNumber_25 rfl (lv_at hl 2 rfl) ?_
  refine lv_iload_n hx hb dX11_putNumber_26 rfl (lv_at hl 0 rfl) ?_
  refine lv_iushr (v := _) hx hb dX11_putNumber_27 rfl ?_
  refine lv_topi (fun v10 ev10 => ?_)
  refine lv_sipush (v := 255) hx hb dX11_putNumber_28 (by decide) ?_
  refine lv_iand hx hb dX11_putNumber_31 ?_
  refine lv_topi (fun v11 ev11 => ?_)
  have iv11 : iv v11 0 255 := iv_eq ev11 (iv_and (x := v10) (iv_w (by decide : iv 255 255 255) (by decide) (by decide) : iv 255 0 255))
  refine va_iast hx hb hK hP hD hS 1 0 rfl rfl (iv_in (by decide : iv 15 15 15) (by decide) (by decide) : vp_in 15 2600) dX11_putNumber_32 (fun H locs hP hD hS => ?_)
  have hP : va_P (dC, dI) vwCl [(h0, .inr (11, [.ref h1, .ref h2, .ref h3, .ref h4, .ref h5, .int 15, .int 0])), (h1, .inl (y0, 2600, .inl (upd f9 (15 : Int32).toNatClampNeg v11)))] H := hP
  have hD : va_D A [(h0, .inr (11, [.ref h1, .ref h2, .ref h3, .ref h4, .ref h5, .int 15, .int 0])), (h1, .inl (y0, 2600, .inl (upd f9 (15 : Int32).toNatClampNeg v11)))] := hD
  obtain ⟨f12, ef12⟩ : ∃ z, z = upd f9 (15 : Int32).toNatClampNeg v11 := ⟨_, rfl⟩
  rw [← ef12] at hP hD
  have if12 : ∀ j, iv (f12 j) 0 255 := by rw [ef12]; exact iv_upd if9 iv11 (by decide) (by decide) (by decide) (by decide)
  refine lv_aload_n hx hb dX11_putNumber_33 rfl (lv_at hl 1 rfl) ?_
  refine lv_dup hx hb dX11_putNumber_34 rfl ?_
  refine va_get (D := (dC, dI)) (ci := 11) (v := .int 15) (C := RX11) (T := TX11) (N := 7) hx hb hG inGX11 hown hK hP 0 rfl rfl 5 (by decide) (hG _ wd_400) (fun _ h9 => h9) rfl dX11_putNumber_35 ?_
  refine lv_iconst (v := 1) hx hb dX11_putNumber_38 (by decide) ?_
  refine lv_iadd hx hb dX11_putNumber_39 ?_
  refine lv_val (y := 16) (by decide +kernel) ?_
  refine va_put (D := (dC, dI)) (ci := 11) (v := .int 16) (ty := .int) (C := RX11) (T := TX11) (N := 7) hx hb hG inGX11 tyX11 tyX11_ok nmX11 hown hK hP hD hS 0 rfl rfl 5 (by decide) (hG _ wd_400) (fun _ h9 => h9) rfl (by decide +kernel) rfl rfl (Nat.le_of_ble_eq_true rfl) dX11_putNumber_40 (fun H locs hP hD hS => ?_)
  have hP : va_P (dC, dI) vwCl [(h0, .inr (11, [.ref h1, .ref h2, .ref h3, .ref h4, .ref h5, .int 16, .int 0])), (h1, .inl (y0, 2600, .inl f12))] H := hP
  have hD : va_D A [(h0, .inr (11, [.ref h1, .ref h2, .ref h3, .ref h4, .ref h5, .int 16, .int 0])), (h1, .inl (y0, 2600, .inl f12))] := hD
  refine lv_iinc (v := (-8)) (lv' := [(2, .int (-8)), (0, .ref h0), (1, .int x0)]) hx hb dX11_putNumber_43 hl (k := 0) rfl (by decide) (by decide) rfl (fun ls hl => ?_)
  refine lv_goto (tgt := 3) hx hb dX11_putNumber_46 (by decide) ?_
  refine lv_iload_n hx hb dX11_putNumber_3 rfl (lv_at hl 0 rfl) ?_
  refine lv_if_lt (tgt := 49) hx hb dX11_putNumber_4 (by decide) (fun _ => ?_) (fun c => absurd (by decide) c)
  have hP9 := hP.sub (ws' := [(h0, .inr (11, [.ref h1, .ref h2, .ref h3, .ref h4, .ref h5, .int 16, .int 0])), (h1, .inl (y0, 2600, .inl f12))]) [0, 1] rfl
  have hD9 := hD.sub (ws' := [(h0, .inr (11, [.ref h1, .ref h2, .ref h3, .ref h4, .ref h5, .int 16, .int 0])), (h1, .inl (y0, 2600, .inl f12))]) [0, 1] (by decide) rfl
  have hK9 := hK.sub (tys' := [(y0, .int)]) [0] rfl
  exact W.vret hx hb hr (fun t ht hW => ⟨⟨f12, rfl, ⟨(fun j => iv_w (if12 j) (by decide) (by decide)), trivial⟩, by rw [ht]; exact hP9, va_K.moved hW.alike hK9, hD9⟩, hS.F ht⟩) hS.2.2 dX11_putNumber_49
set_option maxHeartbeats 4000000 in
set_option maxRecDepth 100000 in
theorem cX11_putNumber_5 (l : Launch) (dC : Nat → ClassId) (dI : Nat → Nat → Nat) (h0 h1 h2 h3 h4 h5 : Nat) (y0 : ClassId) (sz : Nat) (x0 : Int32) (f0 : Nat → Int32) (if0 : ∀ j, iv (f0 j) 0 255) : Met l yX11_putNumber (Cond.code yX11_putNumber cX11_putNumber 3 none :: lw_G) ({ frames := 0, cells := 0, slots := 0, locals := 0 }) (va_Pc [.ref h0, .int x0] (fun U => U.heap.size = sz ∧ va_P (dC, dI) vwCl [(h0, .inr (11, [.ref h1, .ref h2, .ref h3, .ref h4, .ref h5, .int 16, .int 0])), (h1, .inl (y0, 2600, .inl f0))] U.heap ∧ va_K (dC, dI) vwCl [(y0, .int)] U ∧ va_D (fun _ => True) [(h0, .inr (11, [.ref h1, .ref h2, .ref h3, .ref h4, .ref h5, .int 16, .int 0])), (h1, .inl (y0, 2600, .inl f0))])) (va_Qv (fun (u : (Nat → Int32)) => (∀ j, iv (u j) 0 255) ∧ True) (fun (u : (Nat → Int32)) (t : State) => va_P (dC, dI) vwCl [(h0, .inr (11, [.ref h1, .ref h2, .ref h3, .ref h4, .ref h5, .int 20, .int 0])), (h1, .inl (y0, 2600, .inl u))] t.heap ∧ va_K (dC, dI) vwCl [(y0, .int)] t ∧ va_D (va_A [(h0, .inr (11, [.ref h1, .ref h2, .ref h3, .ref h4, .ref h5, .int 16, .int 0])), (h1, .inl (y0, 2600, .inl f0))] sz) [(h0, .inr (11, [.ref h1, .ref h2, .ref h3, .ref h4, .ref h5, .int 20, .int 0])), (h1, .inl (y0, 2600, .inl u))]) (va_A [(h0, .inr (11, [.ref h1, .ref h2, .ref h3, .ref h4, .ref h5, .int 16, .int 0])), (h1, .inl (y0, 2600, .inl f0))] sz)) 0 0 (va_A [(h0, .inr (11, [.ref h1, .ref h2, .ref h3, .ref h4, .ref h5, .int 16, .int 0])), (h1, .inl (y0, 2600, .inl f0))] sz) := by
  refine Met.ofW (cc := cX11_putNumber) (maxL := 3) (ret := none) (by decide) rfl ?_
  intro p e s m args below meth c s₁ B hml hv
  obtain ⟨rfl, hsz, hP, hK, hD0⟩ := hv
  have hx := B.exec
  have hb := B.bytes
  have hr := B.returns
  have hts0 := atoms_spec (ws := Cond.code yX11_putNumber cX11_putNumber 3 none :: lw_G) B.pre
  have hG : ∀ w ∈ lw_G, w.before _ s = true := fun w h => hts0 w (List.mem_cons_of_mem _ h)
  have hown : s.vm.findClass RX11 = some m.cls := findClass_of_methodNamed B.named
  have hlocks := B.notSynchronized
  subst hsz
  have hD := hD0.self (sz := s.heap.size)
  generalize hAe : va_A [(h0, .inr (11, [.ref h1, .ref h2, .ref h3, .ref h4, .ref h5, .int 16, .int 0])), (h1, .inl (y0, 2600, .inl f0))] s.heap.size = A at hD ⊢
  have hA : ∀ q : Nat, s.heap.size ≤ q → A q := fun q h => by rw [← hAe]; exact Or.inr h
  have hS : va_S A s.heap s.heap [] := va_S.rf
  have hP : va_P (dC, dI) vwCl [(h0, .inr (11, [.ref h1, .ref h2, .ref h3, .ref h4, .ref h5, .int 16, .int 0])), (h1, .inl (y0, 2600, .inl f0))] s.heap := hP
  have hl := lv_entry ([.ref h0, .int x0]) (n := 3) (Nat.le_of_ble_eq_true rfl)
  rw [lg_entry_eq]
  generalize (lg_sl ([.ref h0, .int x0]) ++ List.replicate (3 - (lg_sl ([.ref h0, .int x0])).length) Slot.unset).toArray = ls at hl ⊢
  have hl : lv_has ls 3 [(0, .ref h0), (1, .int x0)] := hl
  refine lv_bipush (v := 24) hx hb dX11_putNumber_0 (by decide) ?_
  refine lv_istore_n (lv' := [(2, .int 24), (0, .ref h0), (1, .int x0)]) hx hb dX11_putNumber_2 rfl hl (by decide) rfl (fun ls hl => ?_)
  refine lv_iload_n hx hb dX11_putNumber_3 rfl (lv_at hl 0 rfl) ?_
  refine lv_if_lt (tgt := 49) hx hb dX11_putNumber_4 (by decide) (fun c => absurd c (by decide)) (fun _ => ?_)
  refine lv_aload_n hx hb dX11_putNumber_7 rfl (lv_at hl 1 rfl) ?_
  refine va_get (D := (dC, dI)) (ci := 11) (v := .int 16) (C := RX11) (T := TX11) (N := 7) hx hb hG inGX11 hown hK hP 0 rfl rfl 5 (by decide) (hG _ wd_400) (fun _ h9 => h9) rfl dX11_putNumber_8 ?_
  refine lv_sipush (v := 2600) hx hb dX11_putNumber_11 (by decide) ?_
  refine lv_icmp_ge (tgt := 43) hx hb dX11_putNumber_14 (by decide) (fun c => absurd c (by decide)) (fun _ => ?_)
  refine lv_aload_n hx hb dX11_putNumber_17 rfl (lv_at hl 1 rfl) ?_
  refine va_get (D := (dC, dI)) (ci := 11) (v := .ref h1) (C := RX11) (T := TX11) (N := 7) hx hb hG inGX11 hown hK hP 0 rfl rfl 0 (by decide) (hG _ wd_395) (fun _ h9 => h9) rfl dX11_putNumber_18 ?_
  refine lv_aload_n hx hb dX11_putNumber_21 rfl (lv_at hl 1 rfl) ?_
  refine va_get (D := (dC, dI)) (ci := 11) (v := .int 16) (C := RX11) (T := TX11) (N := 7) hx hb hG inGX11 hown hK hP 0 rfl rfl 5 (by decide) (hG _ wd_400) (fun _ h9 => h9) rfl dX11_putNumber_22 ?_
  refine lv_iload_n hx hb dX11_putNumber_25 rfl (lv_at hl 2 rfl) ?_
  refine lv_iload_n hx hb dX11_putNumber_26 rfl (lv_at hl 0 rfl) ?_
  refine lv_iushr (v := _) hx hb dX11_putNumber_27 rfl ?_
  refine lv_topi (fun v1 ev1 => ?_)
  refine lv_sipush (v := 255) hx hb dX11_putNumber_28 (by decide) ?_
  refine lv_iand hx hb dX11_putNumber_31 ?_
  refine lv_topi (fun v2 ev2 => ?_)
  have iv2 : iv v2 0 255 := iv_eq ev2 (iv_and (x := v1) (iv_w (by decide : iv 255 255 255) (by decide) (by decide) : iv 255 0 255))
  refine va_iast hx hb hK hP hD hS 1 0 rfl rfl (iv_in (by decide : iv 16 16 16) (by decide) (by decide) : vp_in 16 2600) dX11_putNumber_32 (fun H locs hP hD hS => ?_)
  have hP : va_P (dC, dI) vwCl [(h0, .inr (11, [.ref h1, .ref h2, .ref h3, .ref h4, .ref h5, .int 16, .int 0])), (h1, .inl (y0, 2600, .inl (upd f0 (16 : Int32).toNatClampNeg v2)))] H := hP
  have hD : va_D A [(h0, .inr (11, [.ref h1, .ref h2, .ref h3, .ref h4, .ref h5, .int 16, .int 0])), (h1, .inl (y0, 2600, .inl (upd f0 (16 : Int32).toNatClampNeg v2)))] := hD
  obtain ⟨f3, ef3⟩ : ∃ z, z = upd f0 (16 : Int32).toNatClampNeg v2 := ⟨_, rfl⟩
  rw [← ef3] at hP hD
  have if3 : ∀ j, iv (f3 j) 0 255 := by rw [ef3]; exact iv_upd if0 iv2 (by decide) (by decide) (by decide) (by decide)
  refine lv_aload_n hx hb dX11_putNumber_33 rfl (lv_at hl 1 rfl) ?_
  refine lv_dup hx hb dX11_putNumber_34 rfl ?_
  refine va_get (D := (dC, dI)) (ci := 11) (v := .int 16) (C := RX11) (T := TX11) (N := 7) hx hb hG inGX11 hown hK hP 0 rfl rfl 5 (by decide) (hG _ wd_400) (fun _ h9 => h9) rfl dX11_putNumber_35 ?_
  refine lv_iconst (v := 1) hx hb dX11_putNumber_38 (by decide) ?_
  refine lv_iadd hx hb dX11_putNumber_39 ?_
  refine lv_val (y := 17) (by decide +kernel) ?_
  refine va_put (D := (dC, dI)) (ci := 11) (v := .int 17) (ty := .int) (C := RX11) (T := TX11) (N := 7) hx hb hG inGX11 tyX11 tyX11_ok nmX11 hown hK hP hD hS 0 rfl rfl 5 (by decide) (hG _ wd_400) (fun _ h9 => h9) rfl (by decide +kernel) rfl rfl (Nat.le_of_ble_eq_true rfl) dX11_putNumber_40 (fun H locs hP hD hS => ?_)
  have hP : va_P (dC, dI) vwCl [(h0, .inr (11, [.ref h1, .ref h2, .ref h3, .ref h4, .ref h5, .int 17, .int 0])), (h1, .inl (y0, 2600, .inl f3))] H := hP
  have hD : va_D A [(h0, .inr (11, [.ref h1, .ref h2, .ref h3, .ref h4, .ref h5, .int 17, .int 0])), (h1, .inl (y0, 2600, .inl f3))] := hD
  refine lv_iinc (v := 16) (lv' := [(2, .int 16), (0, .ref h0), (1, .int x0)]) hx hb dX11_putNumber_43 hl (k := 0) rfl (by decide) (by decide) rfl (fun ls hl => ?_)
  refine lv_goto (tgt := 3) hx hb dX11_putNumber_46 (by decide) ?_
  refine lv_iload_n hx hb dX11_putNumber_3 rfl (lv_at hl 0 rfl) ?_
  refine lv_if_lt (tgt := 49) hx hb dX11_putNumber_4 (by decide) (fun c => absurd c (by decide)) (fun _ => ?_)
  refine lv_aload_n hx hb dX11_putNumber_7 rfl (lv_at hl 1 rfl) ?_
  refine va_get (D := (dC, dI)) (ci := 11) (v := .int 17) (C := RX11) (T := TX11) (N := 7) hx hb hG inGX11 hown hK hP 0 rfl rfl 5 (by decide) (hG _ wd_400) (fun _ h9 => h9) rfl dX11_putNumber_8 ?_
  refine lv_sipush (v := 2600) hx hb dX11_putNumber_11 (by decide) ?_
  refine lv_icmp_ge (tgt := 43) hx hb dX11_putNumber_14 (by decide) (fun c => absurd c (by decide)) (fun _ => ?_)
  refine lv_aload_n hx hb dX11_putNumber_17 rfl (lv_at hl 1 rfl) ?_
  refine va_get (D := (dC, dI)) (ci := 11) (v := .ref h1) (C := RX11) (T := TX11) (N := 7) hx hb hG inGX11 hown hK hP 0 rfl rfl 0 (by decide) (hG _ wd_395) (fun _ h9 => h9) rfl dX11_putNumber_18 ?_
  refine lv_aload_n hx hb dX11_putNumber_21 rfl (lv_at hl 1 rfl) ?_
  refine va_get (D := (dC, dI)) (ci := 11) (v := .int 17) (C := RX11) (T := TX11) (N := 7) hx hb hG inGX11 hown hK hP 0 rfl rfl 5 (by decide) (hG _ wd_400) (fun _ h9 => h9) rfl dX11_putNumber_22 ?_
  refine lv_iload_n hx hb dX11_putNumber_25 rfl (lv_at hl 2 rfl) ?_
  refine lv_iload_n hx hb dX11_putNumber_26 rfl (lv_at hl 0 rfl) ?_
  refine lv_iushr (v := _) hx hb dX11_putNumber_27 rfl ?_
  refine lv_topi (fun v4 ev4 => ?_)
  refine lv_sipush (v := 255) hx hb dX11_putNumber_28 (by decide) ?_
  refine lv_iand hx hb dX11_putNumber_31 ?_
  refine lv_topi (fun v5 ev5 => ?_)
  have iv5 : iv v5 0 255 := iv_eq ev5 (iv_and (x := v4) (iv_w (by decide : iv 255 255 255) (by decide) (by decide) : iv 255 0 255))
  refine va_iast hx hb hK hP hD hS 1 0 rfl rfl (iv_in (by decide : iv 17 17 17) (by decide) (by decide) : vp_in 17 2600) dX11_putNumber_32 (fun H locs hP hD hS => ?_)
  have hP : va_P (dC, dI) vwCl [(h0, .inr (11, [.ref h1, .ref h2, .ref h3, .ref h4, .ref h5, .int 17, .int 0])), (h1, .inl (y0, 2600, .inl (upd f3 (17 : Int32).toNatClampNeg v5)))] H := hP
  have hD : va_D A [(h0, .inr (11, [.ref h1, .ref h2, .ref h3, .ref h4, .ref h5, .int 17, .int 0])), (h1, .inl (y0, 2600, .inl (upd f3 (17 : Int32).toNatClampNeg v5)))] := hD
  obtain ⟨f6, ef6⟩ : ∃ z, z = upd f3 (17 : Int32).toNatClampNeg v5 := ⟨_, rfl⟩
  rw [← ef6] at hP hD
  have if6 : ∀ j, iv (f6 j) 0 255 := by rw [ef6]; exact iv_upd if3 iv5 (by decide) (by decide) (by decide) (by decide)
  refine lv_aload_n hx hb dX11_putNumber_33 rfl (lv_at hl 1 rfl) ?_
  refine lv_dup hx hb dX11_putNumber_34 rfl ?_
  refine va_get (D := (dC, dI)) (ci := 11) (v := .int 17) (C := RX11) (T := TX11) (N := 7) hx hb hG inGX11 hown hK hP 0 rfl rfl 5 (by decide) (hG _ wd_400) (fun _ h9 => h9) rfl dX11_putNumber_35 ?_
  refine lv_iconst (v := 1) hx hb dX11_putNumber_38 (by decide) ?_
  refine lv_iadd hx hb dX11_putNumber_39 ?_
  refine lv_val (y := 18) (by decide +kernel) ?_
  refine va_put (D := (dC, dI)) (ci := 11) (v := .int 18) (ty := .int) (C := RX11) (T := TX11) (N := 7) hx hb hG inGX11 tyX11 tyX11_ok nmX11 hown hK hP hD hS 0 rfl rfl 5 (by decide) (hG _ wd_400) (fun _ h9 => h9) rfl (by decide +kernel) rfl rfl (Nat.le_of_ble_eq_true rfl) dX11_putNumber_40 (fun H locs hP hD hS => ?_)
  have hP : va_P (dC, dI) vwCl [(h0, .inr (11, [.ref h1, .ref h2, .ref h3, .ref h4, .ref h5, .int 18, .int 0])), (h1, .inl (y0, 2600, .inl f6))] H := hP
  have hD : va_D A [(h0, .inr (11, [.ref h1, .ref h2, .ref h3, .ref h4, .ref h5, .int 18, .int 0])), (h1, .inl (y0, 2600, .inl f6))] := hD
  refine lv_iinc (v := 8) (lv' := [(2, .int 8), (0, .ref h0), (1, .int x0)]) hx hb dX11_putNumber_43 hl (k := 0) rfl (by decide) (by decide) rfl (fun ls hl => ?_)
  refine lv_goto (tgt := 3) hx hb dX11_putNumber_46 (by decide) ?_
  refine lv_iload_n hx hb dX11_putNumber_3 rfl (lv_at hl 0 rfl) ?_
  refine lv_if_lt (tgt := 49) hx hb dX11_putNumber_4 (by decide) (fun c => absurd c (by decide)) (fun _ => ?_)
  refine lv_aload_n hx hb dX11_putNumber_7 rfl (lv_at hl 1 rfl) ?_
  refine va_get (D := (dC, dI)) (ci := 11) (v := .int 18) (C := RX11) (T := TX11) (N := 7) hx hb hG inGX11 hown hK hP 0 rfl rfl 5 (by decide) (hG _ wd_400) (fun _ h9 => h9) rfl dX11_putNumber_8 ?_
  refine lv_sipush (v := 2600) hx hb dX11_putNumber_11 (by decide) ?_
  refine lv_icmp_ge (tgt := 43) hx hb dX11_putNumber_14 (by decide) (fun c => absurd c (by decide)) (fun _ => ?_)
  refine lv_aload_n hx hb dX11_putNumber_17 rfl (lv_at hl 1 rfl) ?_
  refine va_get (D := (dC, dI)) (ci := 11) (v := .ref h1) (C := RX11) (T := TX11) (N := 7) hx hb hG inGX11 hown hK hP 0 rfl rfl 0 (by decide) (hG _ wd_395) (fun _ h9 => h9) rfl dX11_putNumber_18 ?_
  refine lv_aload_n hx hb dX11_putNumber_21 rfl (lv_at hl 1 rfl) ?_
  refine va_get (D := (dC, dI)) (ci := 11) (v := .int 18) (C := RX11) (T := TX11) (N := 7) hx hb hG inGX11 hown hK hP 0 rfl rfl 5 (by decide) (hG _ wd_400) (fun _ h9 => h9) rfl dX11_putNumber_22 ?_
  refine lv_iload_n hx hb dX11_putNumber_25 rfl (lv_at hl 2 rfl) ?_
  refine lv_iload_n hx hb dX11_putNumber_26 rfl (lv_at hl 0 rfl) ?_
  refine lv_iushr (v := _) hx hb dX11_putNumber_27 rfl ?_
  refine lv_topi (fun v7 ev7 => ?_)
  refine lv_sipush (v := 255) hx hb dX11_putNumber_28 (by decide) ?_
  refine lv_iand hx hb dX11_putNumber_31 ?_
  refine lv_topi (fun v8 ev8 => ?_)
  have iv8 : iv v8 0 255 := iv_eq ev8 (iv_and (x := v7) (iv_w (by decide : iv 255 255 255) (by decide) (by decide) : iv 255 0 255))
  refine va_iast hx hb hK hP hD hS 1 0 rfl rfl (iv_in (by decide : iv 18 18 18) (by decide) (by decide) : vp_in 18 2600) dX11_putNumber_32 (fun H locs hP hD hS => ?_)
  have hP : va_P (dC, dI) vwCl [(h0, .inr (11, [.ref h1, .ref h2, .ref h3, .ref h4, .ref h5, .int 18, .int 0])), (h1, .inl (y0, 2600, .inl (upd f6 (18 : Int32).toNatClampNeg v8)))] H := hP
  have hD : va_D A [(h0, .inr (11, [.ref h1, .ref h2, .ref h3, .ref h4, .ref h5, .int 18, .int 0])), (h1, .inl (y0, 2600, .inl (upd f6 (18 : Int32).toNatClampNeg v8)))] := hD
  obtain ⟨f9, ef9⟩ : ∃ z, z = upd f6 (18 : Int32).toNatClampNeg v8 := ⟨_, rfl⟩
  rw [← ef9] at hP hD
  have if9 : ∀ j, iv (f9 j) 0 255 := by rw [ef9]; exact iv_upd if6 iv8 (by decide) (by decide) (by decide) (by decide)
  refine lv_aload_n hx hb dX11_putNumber_33 rfl (lv_at hl 1 rfl) ?_
  refine lv_dup hx hb dX11_putNumber_34 rfl ?_
  refine va_get (D := (dC, dI)) (ci := 11) (v := .int 18) (C := RX11) (T := TX11) (N := 7) hx hb hG inGX11 hown hK hP 0 rfl rfl 5 (by decide) (hG _ wd_400) (fun _ h9 => h9) rfl dX11_putNumber_35 ?_
  refine lv_iconst (v := 1) hx hb dX11_putNumber_38 (by decide) ?_
  refine lv_iadd hx hb dX11_putNumber_39 ?_
  refine lv_val (y := 19) (by decide +kernel) ?_
  refine va_put (D := (dC, dI)) (ci := 11) (v := .int 19) (ty := .int) (C := RX11) (T := TX11) (N := 7) hx hb hG inGX11 tyX11 tyX11_ok nmX11 hown hK hP hD hS 0 rfl rfl 5 (by decide) (hG _ wd_400) (fun _ h9 => h9) rfl (by decide +kernel) rfl rfl (Nat.le_of_ble_eq_true rfl) dX11_putNumber_40 (fun H locs hP hD hS => ?_)
  have hP : va_P (dC, dI) vwCl [(h0, .inr (11, [.ref h1, .ref h2, .ref h3, .ref h4, .ref h5, .int 19, .int 0])), (h1, .inl (y0, 2600, .inl f9))] H := hP
  have hD : va_D A [(h0, .inr (11, [.ref h1, .ref h2, .ref h3, .ref h4, .ref h5, .int 19, .int 0])), (h1, .inl (y0, 2600, .inl f9))] := hD
  refine lv_iinc (v := 0) (lv' := [(2, .int 0), (0, .ref h0), (1, .int x0)]) hx hb dX11_putNumber_43 hl (k := 0) rfl (by decide) (by decide) rfl (fun ls hl => ?_)
  refine lv_goto (tgt := 3) hx hb dX11_putNumber_46 (by decide) ?_
  refine lv_iload_n hx hb dX11_putNumber_3 rfl (lv_at hl 0 rfl) ?_
  refine lv_if_lt (tgt := 49) hx hb dX11_putNumber_4 (by decide) (fun c => absurd c (by decide)) (fun _ => ?_)
  refine lv_aload_n hx hb dX11_putNumber_7 rfl (lv_at hl 1 rfl) ?_
  refine va_get (D := (dC, dI)) (ci := 11) (v := .int 19) (C := RX11) (T := TX11) (N := 7) hx hb hG inGX11 hown hK hP 0 rfl rfl 5 (by decide) (hG _ wd_400) (fun _ h9 => h9) rfl dX11_putNumber_8 ?_
  refine lv_sipush (v := 2600) hx hb dX11_putNumber_11 (by decide) ?_
  refine lv_icmp_ge (tgt := 43) hx hb dX11_putNumber_14 (by decide) (fun c => absurd c (by decide)) (fun _ => ?_)
  refine lv_aload_n hx hb dX11_putNumber_17 rfl (lv_at hl 1 rfl) ?_
  refine va_get (D := (dC, dI)) (ci := 11) (v := .ref h1) (C := RX11) (T := TX11) (N := 7) hx hb hG inGX11 hown hK hP 0 rfl rfl 0 (by decide) (hG _ wd_395) (fun _ h9 => h9) rfl dX11_putNumber_18 ?_
  refine lv_aload_n hx hb dX11_putNumber_21 rfl (lv_at hl 1 rfl) ?_
  refine va_get (D := (dC, dI)) (ci := 11) (v := .int 19) (C := RX11) (T := TX11) (N := 7) hx hb hG inGX11 hown hK hP 0 rfl rfl 5 (by decide) (hG _ wd_400) (fun _ h9 => h9) rfl dX11_putNumber_22 ?_
  refine lv_iload_n hx hb dX11_putNumber_25 rfl (lv_at hl 2 rfl) ?_
  refine lv_iload_n hx hb dX11_putNumber_26 rfl (lv_at hl 0 rfl) ?_
  refine lv_iushr (v := _) hx hb dX11_putNumber_27 rfl ?_
  refine lv_topi (fun v10 ev10 => ?_)
  refine lv_sipush (v := 255) hx hb dX11_putNumber_28 (by decide) ?_
  refine lv_iand hx hb dX11_putNumber_31 ?_
  refine lv_topi (fun v11 ev11 => ?_)
  have iv11 : iv v11 0 255 := iv_eq ev11 (iv_and (x := v10) (iv_w (by decide : iv 255 255 255) (by decide) (by decide) : iv 255 0 255))
  refine va_iast hx hb hK hP hD hS 1 0 rfl rfl (iv_in (by decide : iv 19 19 19) (by decide) (by decide) : vp_in 19 2600) dX11_putNumber_32 (fun H locs hP hD hS => ?_)
  have hP : va_P (dC, dI) vwCl [(h0, .inr (11, [.ref h1, .ref h2, .ref h3, .ref h4, .ref h5, .int 19, .int 0])), (h1, .inl (y0, 2600, .inl (upd f9 (19 : Int32).toNatClampNeg v11)))] H := hP
  have hD : va_D A [(h0, .inr (11, [.ref h1, .ref h2, .ref h3, .ref h4, .ref h5, .int 19, .int 0])), (h1, .inl (y0, 2600, .inl (upd f9 (19 : Int32).toNatClampNeg v11)))] := hD
  obtain ⟨f12, ef12⟩ : ∃ z, z = upd f9 (19 : Int32).toNatClampNeg v11 := ⟨_, rfl⟩
  rw [← ef12] at hP hD
  have if12 : ∀ j, iv (f12 j) 0 255 := by rw [ef12]; exact iv_upd if9 iv11 (by decide) (by decide) (by decide) (by decide)
  refine lv_aload_n hx hb dX11_putNumber_33 rfl (lv_at hl 1 rfl) ?_
  refine lv_dup hx hb dX11_putNumber_34 rfl ?_
  refine va_get (D := (dC, dI)) (ci := 11) (v := .int 19) (C := RX11) (T := TX11) (N := 7) hx hb hG inGX11 hown hK hP 0 rfl rfl 5 (by decide) (hG _ wd_400) (fun _ h9 => h9) rfl dX11_putNumber_35 ?_
  refine lv_iconst (v := 1) hx hb dX11_putNumber_38 (by decide) ?_
  refine lv_iadd hx hb dX11_putNumber_39 ?_
  refine lv_val (y := 20) (by decide +kernel) ?_
  refine va_put (D := (dC, dI)) (ci := 11) (v := .int 20) (ty := .int) (C := RX11) (T := TX11) (N := 7) hx hb hG inGX11 tyX11 tyX11_ok nmX11 hown hK hP hD hS 0 rfl rfl 5 (by decide) (hG _ wd_400) (fun _ h9 => h9) rfl (by decide +kernel) rfl rfl (Nat.le_of_ble_eq_true rfl) dX11_putNumber_40 (fun H locs hP hD hS => ?_)
  have hP : va_P (dC, dI) vwCl [(h0, .inr (11, [.ref h1, .ref h2, .ref h3, .ref h4, .ref h5, .int 20, .int 0])), (h1, .inl (y0, 2600, .inl f12))] H := hP
  have hD : va_D A [(h0, .inr (11, [.ref h1, .ref h2, .ref h3, .ref h4, .ref h5, .int 20, .int 0])), (h1, .inl (y0, 2600, .inl f12))] := hD
  refine lv_iinc (v := (-8)) (lv' := [(2, .int (-8)), (0, .ref h0), (1, .int x0)]) hx hb dX11_putNumber_43 hl (k := 0) rfl (by decide) (by decide) rfl (fun ls hl => ?_)
  refine lv_goto (tgt := 3) hx hb dX11_putNumber_46 (by decide) ?_
  refine lv_iload_n hx hb dX11_putNumber_3 rfl (lv_at hl 0 rfl) ?_
  refine lv_if_lt (tgt := 49) hx hb dX11_putNumber_4 (by decide) (fun _ => ?_) (fun c => absurd (by decide) c)
  have hP9 := hP.sub (ws' := [(h0, .inr (11, [.ref h1, .ref h2, .ref h3, .ref h4, .ref h5, .int 20, .int 0])), (h1, .inl (y0, 2600, .inl f12))]) [0, 1] rfl
  have hD9 := hD.sub (ws' := [(h0, .inr (11, [.ref h1, .ref h2, .ref h3, .ref h4, .ref h5, .int 20, .int 0])), (h1, .inl (y0, 2600, .inl f12))]) [0, 1] (by decide) rfl
  have hK9 := hK.sub (tys' := [(y0, .int)]) [0] rfl
  exact W.vret hx hb hr (fun t ht hW => ⟨⟨f12, rfl, ⟨(fun j => iv_w (if12 j) (by decide) (by decide)), trivial⟩, by rw [ht]; exact hP9, va_K.moved hW.alike hK9, hD9⟩, hS.F ht⟩) hS.2.2 dX11_putNumber_49
set_option maxHeartbeats 4000000 in
set_option maxRecDepth 100000 in
theorem cX11_feed_1 (l : Launch) (dC : Nat → ClassId) (dI : Nat → Nat → Nat) (h0 h1 h2 h3 h4 h5 : Nat) (y0 : ClassId) (sz : Nat) (x0 x1 x2 x3 x4 : Int32) : Met l yX11_feed (Cond.code yX11_feed cX11_feed 6 (some .int) :: lw_G) ({ frames := 1, cells := 0, slots := 0, locals := 22 }) (va_Pc [.ref h0, .int x0, .int x1, .int x2, .int x3, .int x4] (fun U => U.heap.size = sz ∧ va_P (dC, dI) vwCl [(h0, .inr (11, [.ref h1, .ref h2, .ref h3, .ref h4, .ref h5, .int 0, .int 0])), (h1, .inl (y0, 2600, .inl (fun _ => 0)))] U.heap ∧ va_K (dC, dI) vwCl [(y0, .int)] U ∧ va_D (fun _ => True) [(h0, .inr (11, [.ref h1, .ref h2, .ref h3, .ref h4, .ref h5, .int 0, .int 0])), (h1, .inl (y0, 2600, .inl (fun _ => 0)))])) (va_Qi (fun (r : Int32) (u : (Nat → Int32)) => r = 20 ∧ (∀ j, iv (u j) 0 255) ∧ True) (fun (u : (Nat → Int32)) (t : State) => va_P (dC, dI) vwCl [(h0, .inr (11, [.ref h1, .ref h2, .ref h3, .ref h4, .ref h5, .int 20, .int 0])), (h1, .inl (y0, 2600, .inl u))] t.heap ∧ va_K (dC, dI) vwCl [(y0, .int)] t ∧ va_D (va_A [(h0, .inr (11, [.ref h1, .ref h2, .ref h3, .ref h4, .ref h5, .int 0, .int 0])), (h1, .inl (y0, 2600, .inl (fun _ => 0)))] sz) [(h0, .inr (11, [.ref h1, .ref h2, .ref h3, .ref h4, .ref h5, .int 20, .int 0])), (h1, .inl (y0, 2600, .inl u))]) (va_A [(h0, .inr (11, [.ref h1, .ref h2, .ref h3, .ref h4, .ref h5, .int 0, .int 0])), (h1, .inl (y0, 2600, .inl (fun _ => 0)))] sz)) 0 0 (va_A [(h0, .inr (11, [.ref h1, .ref h2, .ref h3, .ref h4, .ref h5, .int 0, .int 0])), (h1, .inl (y0, 2600, .inl (fun _ => 0)))] sz) := by
  refine Met.ofW (cc := cX11_feed) (maxL := 6) (ret := (some .int)) (by decide) rfl ?_
  intro p e s m args below meth c s₁ B hml hv
  obtain ⟨rfl, hsz, hP, hK, hD0⟩ := hv
  have hx := B.exec
  have hb := B.bytes
  have hr := B.returns
  have hts0 := atoms_spec (ws := Cond.code yX11_feed cX11_feed 6 (some .int) :: lw_G) B.pre
  have hG : ∀ w ∈ lw_G, w.before _ s = true := fun w h => hts0 w (List.mem_cons_of_mem _ h)
  have hown : s.vm.findClass RX11 = some m.cls := findClass_of_methodNamed B.named
  have hlocks := B.notSynchronized
  subst hsz
  have hD := hD0.self (sz := s.heap.size)
  generalize hAe : va_A [(h0, .inr (11, [.ref h1, .ref h2, .ref h3, .ref h4, .ref h5, .int 0, .int 0])), (h1, .inl (y0, 2600, .inl (fun _ => 0)))] s.heap.size = A at hD ⊢
  have hA : ∀ q : Nat, s.heap.size ≤ q → A q := fun q h => by rw [← hAe]; exact Or.inr h
  have hS : va_S A s.heap s.heap [] := va_S.rf
  have hP : va_P (dC, dI) vwCl [(h0, .inr (11, [.ref h1, .ref h2, .ref h3, .ref h4, .ref h5, .int 0, .int 0])), (h1, .inl (y0, 2600, .inl (fun _ => 0)))] s.heap := hP
  have hl := lv_entry ([.ref h0, .int x0, .int x1, .int x2, .int x3, .int x4]) (n := 6) (Nat.le_of_ble_eq_true rfl)
  rw [lg_entry_eq]
  generalize (lg_sl ([.ref h0, .int x0, .int x1, .int x2, .int x3, .int x4]) ++ List.replicate (6 - (lg_sl ([.ref h0, .int x0, .int x1, .int x2, .int x3, .int x4])).length) Slot.unset).toArray = ls at hl ⊢
  have hl : lv_has ls 6 [(0, .ref h0), (1, .int x0), (2, .int x1), (3, .int x2), (4, .int x3), (5, .int x4)] := hl
  refine lv_aload_n hx hb dX11_feed_0 rfl (lv_at hl 0 rfl) ?_
  refine va_get (D := (dC, dI)) (ci := 11) (v := .int 0) (C := RX11) (T := TX11) (N := 7) hx hb hG inGX11 hown hK hP 0 rfl rfl 5 (by decide) (hG _ wd_400) (fun _ h9 => h9) rfl dX11_feed_1 ?_
  refine lv_bipush (v := 20) hx hb dX11_feed_4 (by decide) ?_
  refine lv_iadd hx hb dX11_feed_6 ?_
  refine lv_val (y := 20) (by decide +kernel) ?_
  refine lv_sipush (v := 2600) hx hb dX11_feed_7 (by decide) ?_
  refine lv_icmp_le (tgt := 15) hx hb dX11_feed_10 (by decide) (fun _ => ?_) (fun c => absurd (by decide) c)
  refine lv_aload_n hx hb dX11_feed_15 rfl (lv_at hl 0 rfl) ?_
  refine lv_iload_n hx hb dX11_feed_16 rfl (lv_at hl 1 rfl) ?_
  have hPc := hP.sub (ws' := [(h0, .inr (11, [.ref h1, .ref h2, .ref h3, .ref h4, .ref h5, .int 0, .int 0])), (h1, .inl (y0, 2600, .inl (fun _ => 0)))]) [0, 1] rfl
  have hDc := hD.sub (ws' := [(h0, .inr (11, [.ref h1, .ref h2, .ref h3, .ref h4, .ref h5, .int 0, .int 0])), (h1, .inl (y0, 2600, .inl (fun _ => 0)))]) [0, 1] (by decide) rfl
  have hKc := hK.sub (tys' := [(y0, .int)]) [0] rfl
  have hFc := va_free (wc := [(h0, .inr (11, [.ref h1, .ref h2, .ref h3, .ref h4, .ref h5, .int 0, .int 0])), (h1, .inl (y0, 2600, .inl (fun _ => 0)))]) hD hS hA [0, 1] rfl
  refine va_callv (va_runV (As := [.int x0]) (rest := []) ⟨hx, hb, hml, hown, hG⟩ (cX11_putNumber_1 l dC dI h0 h1 h2 h3 h4 h5 y0 s.heap.size x0) (cwV 1 hG (gV wd_421 wd_423 wp_0 wd_1 wd_424) rfl rfl rfl (by decide +kernel) ⟨Nat.le_of_ble_eq_true rfl, Nat.le_of_ble_eq_true rfl⟩) ⟨fun a U g mk q => by obtain ⟨q0, q1, qP, qK, qD⟩ := q; exact ⟨q0, q1, qP, va_K.moved (u := U) (U := U.calling g mk a) (Vm.Alike.refl U.vm) qK, qD⟩, va_recv hKc hPc (ci := 11) (q0 := 0) rfl rfl, fun U hU hW => ⟨rfl, by rw [hU], by rw [hU]; exact hPc, va_K.moved hW.alike hKc, hDc.weaken (fun _ _ _ _ => trivial)⟩⟩ rfl rfl hl.1 rfl (lv_room (Nat.le_of_ble_eq_true rfl)) dX11_feed_17 ⟨by decide, by decide⟩) hS (fun q _ h => hFc q h) hFc (fun u2 t H1 locs ht hvm hw hB hz1 hk1 hS => ?_)
  obtain ⟨u2_0, rfl⟩ : ∃ z, z = u2 := ⟨_, rfl⟩
  have hw : (∀ j, iv (u2_0 j) 0 255) ∧ True := hw
  obtain ⟨iu2_0, -⟩ := hw
  obtain ⟨hP1, hK1, hD1⟩ := hB
  rw [ht] at hP1
  have hK1 := va_K.moved hvm.symm hK1
  obtain ⟨hP, hD⟩ := va_join (wr := []) (w1 := [(h0, .inr (11, [.ref h1, .ref h2, .ref h3, .ref h4, .ref h5, .int 4, .int 0])), (h1, .inl (y0, 2600, .inl u2_0))]) hP hD [0, 1] [] rfl rfl (by decide) (by decide) hk1 hFc hP1 hD1
  have hK := (hK.sub (tys' := []) [] rfl).app hK1
  generalize H1 = H at hP hS ⊢
  have hP : va_P (dC, dI) vwCl [(h0, .inr (11, [.ref h1, .ref h2, .ref h3, .ref h4, .ref h5, .int 4, .int 0])), (h1, .inl (y0, 2600, .inl u2_0))] H := hP
  have hD : va_D A [(h0, .inr (11, [.ref h1, .ref h2, .ref h3, .ref h4, .ref h5, .int 4, .int 0])), (h1, .inl (y0, 2600, .inl u2_0))] := hD
  have hK : va_K (dC, dI) vwCl [(y0, .int)] s := hK
  refine lv_aload_n hx hb dX11_feed_20 rfl (lv_at hl 0 rfl) ?_
  refine lv_iload_n hx hb dX11_feed_21 rfl (lv_at hl 2 rfl) ?_
  have hPc := hP.sub (ws' := [(h0, .inr (11, [.ref h1, .ref h2, .ref h3, .ref h4, .ref h5, .int 4, .int 0])), (h1, .inl (y0, 2600, .inl u2_0))]) [0, 1] rfl
  have hDc := hD.sub (ws' := [(h0, .inr (11, [.ref h1, .ref h2, .ref h3, .ref h4, .ref h5, .int 4, .int 0])), (h1, .inl (y0, 2600, .inl u2_0))]) [0, 1] (by decide) rfl
  have hKc := hK.sub (tys' := [(y0, .int)]) [0] rfl
  have hFc := va_free (wc := [(h0, .inr (11, [.ref h1, .ref h2, .ref h3, .ref h4, .ref h5, .int 4, .int 0])), (h1, .inl (y0, 2600, .inl u2_0))]) hD hS hA [0, 1] rfl
  refine va_callv (va_runV (As := [.int x1]) (rest := []) ⟨hx, hb, hml, hown, hG⟩ (cX11_putNumber_2 l dC dI h0 h1 h2 h3 h4 h5 y0 H.size x1 u2_0 iu2_0) (cwV 1 hG (gV wd_421 wd_423 wp_0 wd_1 wd_424) rfl rfl rfl (by decide +kernel) ⟨Nat.le_of_ble_eq_true rfl, Nat.le_of_ble_eq_true rfl⟩) ⟨fun a U g mk q => by obtain ⟨q0, q1, qP, qK, qD⟩ := q; exact ⟨q0, q1, qP, va_K.moved (u := U) (U := U.calling g mk a) (Vm.Alike.refl U.vm) qK, qD⟩, va_recv hKc hPc (ci := 11) (q0 := 0) rfl rfl, fun U hU hW => ⟨rfl, by rw [hU], by rw [hU]; exact hPc, va_K.moved hW.alike hKc, hDc.weaken (fun _ _ _ _ => trivial)⟩⟩ rfl rfl hl.1 rfl (lv_room (Nat.le_of_ble_eq_true rfl)) dX11_feed_22 ⟨by decide, by decide⟩) hS (fun q _ h => hFc q h) hFc (fun u4 t H1 locs ht hvm hw hB hz1 hk1 hS => ?_)
  obtain ⟨u4_0, rfl⟩ : ∃ z, z = u4 := ⟨_, rfl⟩
  have hw : (∀ j, iv (u4_0 j) 0 255) ∧ True := hw
  obtain ⟨iu4_0, -⟩ := hw
  obtain ⟨hP1, hK1, hD1⟩ := hB
  rw [ht] at hP1
  have hK1 := va_K.moved hvm.symm hK1
  obtain ⟨hP, hD⟩ := va_join (wr := []) (w1 := [(h0, .inr (11, [.ref h1, .ref h2, .ref h3, .ref h4, .ref h5, .int 8, .int 0])), (h1, .inl (y0, 2600, .inl u4_0))]) hP hD [0, 1] [] rfl rfl (by decide) (by decide) hk1 hFc hP1 hD1
  have hK := (hK.sub (tys' := []) [] rfl).app hK1
  generalize H1 = H at hP hS ⊢
  have hP : va_P (dC, dI) vwCl [(h0, .inr (11, [.ref h1, .ref h2, .ref h3, .ref h4, .ref h5, .int 8, .int 0])), (h1, .inl (y0, 2600, .inl u4_0))] H := hP
  have hD : va_D A [(h0, .inr (11, [.ref h1, .ref h2, .ref h3, .ref h4, .ref h5, .int 8, .int 0])), (h1, .inl (y0, 2600, .inl u4_0))] := hD
  have hK : va_K (dC, dI) vwCl [(y0, .int)] s := hK
  refine lv_aload_n hx hb dX11_feed_25 rfl (lv_at hl 0 rfl) ?_
  refine lv_iload_n hx hb dX11_feed_26 rfl (lv_at hl 3 rfl) ?_
  have hPc := hP.sub (ws' := [(h0, .inr (11, [.ref h1, .ref h2, .ref h3, .ref h4, .ref h5, .int 8, .int 0])), (h1, .inl (y0, 2600, .inl u4_0))]) [0, 1] rfl
  have hDc := hD.sub (ws' := [(h0, .inr (11, [.ref h1, .ref h2, .ref h3, .ref h4, .ref h5, .int 8, .int 0])), (h1, .inl (y0, 2600, .inl u4_0))]) [0, 1] (by decide) rfl
  have hKc := hK.sub (tys' := [(y0, .int)]) [0] rfl
  have hFc := va_free (wc := [(h0, .inr (11, [.ref h1, .ref h2, .ref h3, .ref h4, .ref h5, .int 8, .int 0])), (h1, .inl (y0, 2600, .inl u4_0))]) hD hS hA [0, 1] rfl
  refine va_callv (va_runV (As := [.int x2]) (rest := []) ⟨hx, hb, hml, hown, hG⟩ (cX11_putNumber_3 l dC dI h0 h1 h2 h3 h4 h5 y0 H.size x2 u4_0 iu4_0) (cwV 1 hG (gV wd_421 wd_423 wp_0 wd_1 wd_424) rfl rfl rfl (by decide +kernel) ⟨Nat.le_of_ble_eq_true rfl, Nat.le_of_ble_eq_true rfl⟩) ⟨fun a U g mk q => by obtain ⟨q0, q1, qP, qK, qD⟩ := q; exact ⟨q0, q1, qP, va_K.moved (u := U) (U := U.calling g mk a) (Vm.Alike.refl U.vm) qK, qD⟩, va_recv hKc hPc (ci := 11) (q0 := 0) rfl rfl, fun U hU hW => ⟨rfl, by rw [hU], by rw [hU]; exact hPc, va_K.moved hW.alike hKc, hDc.weaken (fun _ _ _ _ => trivial)⟩⟩ rfl rfl hl.1 rfl (lv_room (Nat.le_of_ble_eq_true rfl)) dX11_feed_27 ⟨by decide, by decide⟩) hS (fun q _ h => hFc q h) hFc (fun u6 t H1 locs ht hvm hw hB hz1 hk1 hS => ?_)
  obtain ⟨u6_0, rfl⟩ : ∃ z, z = u6 := ⟨_, rfl⟩
  have hw : (∀ j, iv (u6_0 j) 0 255) ∧ True := hw
  obtain ⟨iu6_0, -⟩ := hw
  obtain ⟨hP1, hK1, hD1⟩ := hB
  rw [ht] at hP1
  have hK1 := va_K.moved hvm.symm hK1
  obtain ⟨hP, hD⟩ := va_join (wr := []) (w1 := [(h0, .inr (11, [.ref h1, .ref h2, .ref h3, .ref h4, .ref h5, .int 12, .int 0])), (h1, .inl (y0, 2600, .inl u6_0))]) hP hD [0, 1] [] rfl rfl (by decide) (by decide) hk1 hFc hP1 hD1
  have hK := (hK.sub (tys' := []) [] rfl).app hK1
  generalize H1 = H at hP hS ⊢
  have hP : va_P (dC, dI) vwCl [(h0, .inr (11, [.ref h1, .ref h2, .ref h3, .ref h4, .ref h5, .int 12, .int 0])), (h1, .inl (y0, 2600, .inl u6_0))] H := hP
  have hD : va_D A [(h0, .inr (11, [.ref h1, .ref h2, .ref h3, .ref h4, .ref h5, .int 12, .int 0])), (h1, .inl (y0, 2600, .inl u6_0))] := hD
  have hK : va_K (dC, dI) vwCl [(y0, .int)] s := hK
  refine lv_aload_n hx hb dX11_feed_30 rfl (lv_at hl 0 rfl) ?_
  refine lv_iload hx hb dX11_feed_31 (lv_at hl 4 rfl) ?_
  have hPc := hP.sub (ws' := [(h0, .inr (11, [.ref h1, .ref h2, .ref h3, .ref h4, .ref h5, .int 12, .int 0])), (h1, .inl (y0, 2600, .inl u6_0))]) [0, 1] rfl
  have hDc := hD.sub (ws' := [(h0, .inr (11, [.ref h1, .ref h2, .ref h3, .ref h4, .ref h5, .int 12, .int 0])), (h1, .inl (y0, 2600, .inl u6_0))]) [0, 1] (by decide) rfl
  have hKc := hK.sub (tys' := [(y0, .int)]) [0] rfl
  have hFc := va_free (wc := [(h0, .inr (11, [.ref h1, .ref h2, .ref h3, .ref h4, .ref h5, .int 12, .int 0])), (h1, .inl (y0, 2600, .inl u6_0))]) hD hS hA [0, 1] rfl
  refine va_callv (va_runV (As := [.int x3]) (rest := []) ⟨hx, hb, hml, hown, hG⟩ (cX11_putNumber_4 l dC dI h0 h1 h2 h3 h4 h5 y0 H.size x3 u6_0 iu6_0) (cwV 1 hG (gV wd_421 wd_423 wp_0 wd_1 wd_424) rfl rfl rfl (by decide +kernel) ⟨Nat.le_of_ble_eq_true rfl, Nat.le_of_ble_eq_true rfl⟩) ⟨fun a U g mk q => by obtain ⟨q0, q1, qP, qK, qD⟩ := q; exact ⟨q0, q1, qP, va_K.moved (u := U) (U := U.calling g mk a) (Vm.Alike.refl U.vm) qK, qD⟩, va_recv hKc hPc (ci := 11) (q0 := 0) rfl rfl, fun U hU hW => ⟨rfl, by rw [hU], by rw [hU]; exact hPc, va_K.moved hW.alike hKc, hDc.weaken (fun _ _ _ _ => trivial)⟩⟩ rfl rfl hl.1 rfl (lv_room (Nat.le_of_ble_eq_true rfl)) dX11_feed_33 ⟨by decide, by decide⟩) hS (fun q _ h => hFc q h) hFc (fun u8 t H1 locs ht hvm hw hB hz1 hk1 hS => ?_)
  obtain ⟨u8_0, rfl⟩ : ∃ z, z = u8 := ⟨_, rfl⟩
  have hw : (∀ j, iv (u8_0 j) 0 255) ∧ True := hw
  obtain ⟨iu8_0, -⟩ := hw
  obtain ⟨hP1, hK1, hD1⟩ := hB
  rw [ht] at hP1
  have hK1 := va_K.moved hvm.symm hK1
  obtain ⟨hP, hD⟩ := va_join (wr := []) (w1 := [(h0, .inr (11, [.ref h1, .ref h2, .ref h3, .ref h4, .ref h5, .int 16, .int 0])), (h1, .inl (y0, 2600, .inl u8_0))]) hP hD [0, 1] [] rfl rfl (by decide) (by decide) hk1 hFc hP1 hD1
  have hK := (hK.sub (tys' := []) [] rfl).app hK1
  generalize H1 = H at hP hS ⊢
  have hP : va_P (dC, dI) vwCl [(h0, .inr (11, [.ref h1, .ref h2, .ref h3, .ref h4, .ref h5, .int 16, .int 0])), (h1, .inl (y0, 2600, .inl u8_0))] H := hP
  have hD : va_D A [(h0, .inr (11, [.ref h1, .ref h2, .ref h3, .ref h4, .ref h5, .int 16, .int 0])), (h1, .inl (y0, 2600, .inl u8_0))] := hD
  have hK : va_K (dC, dI) vwCl [(y0, .int)] s := hK
  refine lv_aload_n hx hb dX11_feed_36 rfl (lv_at hl 0 rfl) ?_
  refine lv_iload hx hb dX11_feed_37 (lv_at hl 5 rfl) ?_
  have hPc := hP.sub (ws' := [(h0, .inr (11, [.ref h1, .ref h2, .ref h3, .ref h4, .ref h5, .int 16, .int 0])), (h1, .inl (y0, 2600, .inl u8_0))]) [0, 1] rfl
  have hDc := hD.sub (ws' := [(h0, .inr (11, [.ref h1, .ref h2, .ref h3, .ref h4, .ref h5, .int 16, .int 0])), (h1, .inl (y0, 2600, .inl u8_0))]) [0, 1] (by decide) rfl
  have hKc := hK.sub (tys' := [(y0, .int)]) [0] rfl
  have hFc := va_free (wc := [(h0, .inr (11, [.ref h1, .ref h2, .ref h3, .ref h4, .ref h5, .int 16, .int 0])), (h1, .inl (y0, 2600, .inl u8_0))]) hD hS hA [0, 1] rfl
  refine va_callv (va_runV (As := [.int x4]) (rest := []) ⟨hx, hb, hml, hown, hG⟩ (cX11_putNumber_5 l dC dI h0 h1 h2 h3 h4 h5 y0 H.size x4 u8_0 iu8_0) (cwV 1 hG (gV wd_421 wd_423 wp_0 wd_1 wd_424) rfl rfl rfl (by decide +kernel) ⟨Nat.le_of_ble_eq_true rfl, Nat.le_of_ble_eq_true rfl⟩) ⟨fun a U g mk q => by obtain ⟨q0, q1, qP, qK, qD⟩ := q; exact ⟨q0, q1, qP, va_K.moved (u := U) (U := U.calling g mk a) (Vm.Alike.refl U.vm) qK, qD⟩, va_recv hKc hPc (ci := 11) (q0 := 0) rfl rfl, fun U hU hW => ⟨rfl, by rw [hU], by rw [hU]; exact hPc, va_K.moved hW.alike hKc, hDc.weaken (fun _ _ _ _ => trivial)⟩⟩ rfl rfl hl.1 rfl (lv_room (Nat.le_of_ble_eq_true rfl)) dX11_feed_39 ⟨by decide, by decide⟩) hS (fun q _ h => hFc q h) hFc (fun u10 t H1 locs ht hvm hw hB hz1 hk1 hS => ?_)
  obtain ⟨u10_0, rfl⟩ : ∃ z, z = u10 := ⟨_, rfl⟩
  have hw : (∀ j, iv (u10_0 j) 0 255) ∧ True := hw
  obtain ⟨iu10_0, -⟩ := hw
  obtain ⟨hP1, hK1, hD1⟩ := hB
  rw [ht] at hP1
  have hK1 := va_K.moved hvm.symm hK1
  obtain ⟨hP, hD⟩ := va_join (wr := []) (w1 := [(h0, .inr (11, [.ref h1, .ref h2, .ref h3, .ref h4, .ref h5, .int 20, .int 0])), (h1, .inl (y0, 2600, .inl u10_0))]) hP hD [0, 1] [] rfl rfl (by decide) (by decide) hk1 hFc hP1 hD1
  have hK := (hK.sub (tys' := []) [] rfl).app hK1
  generalize H1 = H at hP hS ⊢
  have hP : va_P (dC, dI) vwCl [(h0, .inr (11, [.ref h1, .ref h2, .ref h3, .ref h4, .ref h5, .int 20, .int 0])), (h1, .inl (y0, 2600, .inl u10_0))] H := hP
  have hD : va_D A [(h0, .inr (11, [.ref h1, .ref h2, .ref h3, .ref h4, .ref h5, .int 20, .int 0])), (h1, .inl (y0, 2600, .inl u10_0))] := hD
  have hK : va_K (dC, dI) vwCl [(y0, .int)] s := hK
  refine lv_aload_n hx hb dX11_feed_42 rfl (lv_at hl 0 rfl) ?_
  refine va_get (D := (dC, dI)) (ci := 11) (v := .int 20) (C := RX11) (T := TX11) (N := 7) hx hb hG inGX11 hown hK hP 0 rfl rfl 5 (by decide) (hG _ wd_400) (fun _ h9 => h9) rfl dX11_feed_43 ?_
  have hP9 := hP.sub (ws' := [(h0, .inr (11, [.ref h1, .ref h2, .ref h3, .ref h4, .ref h5, .int 20, .int 0])), (h1, .inl (y0, 2600, .inl u10_0))]) [0, 1] rfl
  have hD9 := hD.sub (ws' := [(h0, .inr (11, [.ref h1, .ref h2, .ref h3, .ref h4, .ref h5, .int 20, .int 0])), (h1, .inl (y0, 2600, .inl u10_0))]) [0, 1] (by decide) rfl
  have hK9 := hK.sub (tys' := [(y0, .int)]) [0] rfl
  exact W.iret (v := 20) hx hb hr (fun t ht hW => ⟨⟨20, u10_0, rfl, ⟨rfl, (fun j => iv_w (iu10_0 j) (by decide) (by decide)), trivial⟩, by rw [ht]; exact hP9, va_K.moved hW.alike hK9, hD9⟩, hS.F ht⟩) hS.2.2 dX11_feed_46
set_option maxHeartbeats 4000000 in
set_option maxRecDepth 100000 in
theorem cX11_end_1 (l : Launch) (dC : Nat → ClassId) (dI : Nat → Nat → Nat) (h0 h1 h2 h3 h4 h5 : Nat) (sz : Nat) (x0 : Int32) (ix0 : iv x0 (-2147483648) (-1)) : Met l yX11_end (Cond.code yX11_end cX11_end 2 (some .boolean) :: lw_G) ({ frames := 0, cells := 0, slots := 0, locals := 0 }) (va_Pc [.ref h0, .int x0] (fun U => U.heap.size = sz ∧ va_P (dC, dI) vwCl [(h0, .inr (11, [.ref h1, .ref h2, .ref h3, .ref h4, .ref h5, .int 0, .int 0]))] U.heap ∧ va_K (dC, dI) vwCl [] U ∧ va_D (fun _ => True) [(h0, .inr (11, [.ref h1, .ref h2, .ref h3, .ref h4, .ref h5, .int 0, .int 0]))])) (va_Qi (fun (r : Int32) (u : Unit) => r = 0 ∧ True) (fun (u : Unit) (t : State) => va_P (dC, dI) vwCl [(h0, .inr (11, [.ref h1, .ref h2, .ref h3, .ref h4, .ref h5, .int 0, .int 0]))] t.heap ∧ va_K (dC, dI) vwCl [] t ∧ va_D (va_A [(h0, .inr (11, [.ref h1, .ref h2, .ref h3, .ref h4, .ref h5, .int 0, .int 0]))] sz) [(h0, .inr (11, [.ref h1, .ref h2, .ref h3, .ref h4, .ref h5, .int 0, .int 0]))]) (va_A [(h0, .inr (11, [.ref h1, .ref h2, .ref h3, .ref h4, .ref h5, .int 0, .int 0]))] sz)) 0 0 (va_A [(h0, .inr (11, [.ref h1, .ref h2, .ref h3, .ref h4, .ref h5, .int 0, .int 0]))] sz) := by
  refine Met.ofW (cc := cX11_end) (maxL := 2) (ret := (some .boolean)) (by decide) rfl ?_
  intro p e s m args below meth c s₁ B hml hv
  obtain ⟨rfl, hsz, hP, hK, hD0⟩ := hv
  have hx := B.exec
  have hb := B.bytes
  have hr := B.returns
  have hts0 := atoms_spec (ws := Cond.code yX11_end cX11_end 2 (some .boolean) :: lw_G) B.pre
  have hG : ∀ w ∈ lw_G, w.before _ s = true := fun w h => hts0 w (List.mem_cons_of_mem _ h)
  have hown : s.vm.findClass RX11 = some m.cls := findClass_of_methodNamed B.named
  have hlocks := B.notSynchronized
  subst hsz
  have hD := hD0.self (sz := s.heap.size)
  generalize hAe : va_A [(h0, .inr (11, [.ref h1, .ref h2, .ref h3, .ref h4, .ref h5, .int 0, .int 0]))] s.heap.size = A at hD ⊢
  have hA : ∀ q : Nat, s.heap.size ≤ q → A q := fun q h => by rw [← hAe]; exact Or.inr h
  have hS : va_S A s.heap s.heap [] := va_S.rf
  have hP : va_P (dC, dI) vwCl [(h0, .inr (11, [.ref h1, .ref h2, .ref h3, .ref h4, .ref h5, .int 0, .int 0]))] s.heap := hP
  have hl := lv_entry ([.ref h0, .int x0]) (n := 2) (Nat.le_of_ble_eq_true rfl)
  rw [lg_entry_eq]
  generalize (lg_sl ([.ref h0, .int x0]) ++ List.replicate (2 - (lg_sl ([.ref h0, .int x0])).length) Slot.unset).toArray = ls at hl ⊢
  have hl : lv_has ls 2 [(0, .ref h0), (1, .int x0)] := hl
  refine lv_iload_n hx hb dX11_end_0 rfl (lv_at hl 1 rfl) ?_
  refine lv_if_lt (tgt := 12) hx hb dX11_end_1 (by decide) (fun _ => ?_) (fun c => absurd (iv_lt ix0 (by decide : iv 0 0 0) (by decide)) c)
  refine lv_iconst (v := 0) hx hb dX11_end_12 (by decide) ?_
  have hP9 := hP.sub (ws' := [(h0, .inr (11, [.ref h1, .ref h2, .ref h3, .ref h4, .ref h5, .int 0, .int 0]))]) [0] rfl
  have hD9 := hD.sub (ws' := [(h0, .inr (11, [.ref h1, .ref h2, .ref h3, .ref h4, .ref h5, .int 0, .int 0]))]) [0] (by decide) rfl
  have hK9 := hK.sub (tys' := []) [] rfl
  exact W.zret (v := 0) hx hb hr rfl (fun t ht hW => ⟨⟨0, (), rfl, ⟨rfl, trivial⟩, by rw [ht]; exact hP9, va_K.moved hW.alike hK9, hD9⟩, hS.F ht⟩) hS.2.2 dX11_end_13
set_option maxHeartbeats 4000000 in
set_option maxRecDepth 100000 in
theorem cX11_end_2 (l : Launch) (dC : Nat → ClassId) (dI : Nat → Nat → Nat) (h0 h1 h2 h3 h4 h5 : Nat) (sz : Nat) (x0 : Int32) (ix0 : iv x0 1 2147483647) : Met l yX11_end (Cond.code yX11_end cX11_end 2 (some .boolean) :: lw_G) ({ frames := 0, cells := 0, slots := 0, locals := 0 }) (va_Pc [.ref h0, .int x0] (fun U => U.heap.size = sz ∧ va_P (dC, dI) vwCl [(h0, .inr (11, [.ref h1, .ref h2, .ref h3, .ref h4, .ref h5, .int 0, .int 0]))] U.heap ∧ va_K (dC, dI) vwCl [] U ∧ va_D (fun _ => True) [(h0, .inr (11, [.ref h1, .ref h2, .ref h3, .ref h4, .ref h5, .int 0, .int 0]))])) (va_Qi (fun (r : Int32) (u : Unit) => r = 0 ∧ True) (fun (u : Unit) (t : State) => va_P (dC, dI) vwCl [(h0, .inr (11, [.ref h1, .ref h2, .ref h3, .ref h4, .ref h5, .int 0, .int 0]))] t.heap ∧ va_K (dC, dI) vwCl [] t ∧ va_D (va_A [(h0, .inr (11, [.ref h1, .ref h2, .ref h3, .ref h4, .ref h5, .int 0, .int 0]))] sz) [(h0, .inr (11, [.ref h1, .ref h2, .ref h3, .ref h4, .ref h5, .int 0, .int 0]))]) (va_A [(h0, .inr (11, [.ref h1, .ref h2, .ref h3, .ref h4, .ref h5, .int 0, .int 0]))] sz)) 0 0 (va_A [(h0, .inr (11, [.ref h1, .ref h2, .ref h3, .ref h4, .ref h5, .int 0, .int 0]))] sz) := by
  refine Met.ofW (cc := cX11_end) (maxL := 2) (ret := (some .boolean)) (by decide) rfl ?_
  intro p e s m args below meth c s₁ B hml hv
  obtain ⟨rfl, hsz, hP, hK, hD0⟩ := hv
  have hx := B.exec
  have hb := B.bytes
  have hr := B.returns
  have hts0 := atoms_spec (ws := Cond.code yX11_end cX11_end 2 (some .boolean) :: lw_G) B.pre
  have hG : ∀ w ∈ lw_G, w.before _ s = true := fun w h => hts0 w (List.mem_cons_of_mem _ h)
  have hown : s.vm.findClass RX11 = some m.cls := findClass_of_methodNamed B.named
  have hlocks := B.notSynchronized
  subst hsz
  have hD := hD0.self (sz := s.heap.size)
  generalize hAe : va_A [(h0, .inr (11, [.ref h1, .ref h2, .ref h3, .ref h4, .ref h5, .int 0, .int 0]))] s.heap.size = A at hD ⊢
  have hA : ∀ q : Nat, s.heap.size ≤ q → A q := fun q h => by rw [← hAe]; exact Or.inr h
  have hS : va_S A s.heap s.heap [] := va_S.rf
  have hP : va_P (dC, dI) vwCl [(h0, .inr (11, [.ref h1, .ref h2, .ref h3, .ref h4, .ref h5, .int 0, .int 0]))] s.heap := hP
  have hl := lv_entry ([.ref h0, .int x0]) (n := 2) (Nat.le_of_ble_eq_true rfl)
  rw [lg_entry_eq]
  generalize (lg_sl ([.ref h0, .int x0]) ++ List.replicate (2 - (lg_sl ([.ref h0, .int x0])).length) Slot.unset).toArray = ls at hl ⊢
  have hl : lv_has ls 2 [(0, .ref h0), (1, .int x0)] := hl
  refine lv_iload_n hx hb dX11_end_0 rfl (lv_at hl 1 rfl) ?_
  refine lv_if_lt (tgt := 12) hx hb dX11_end_1 (by decide) (fun c => absurd c (iv_nlt ix0 (by decide : iv 0 0 0) (by decide))) (fun _ => ?_)
  refine lv_iload_n hx hb dX11_end_4 rfl (lv_at hl 1 rfl) ?_
  refine lv_aload_n hx hb dX11_end_5 rfl (lv_at hl 0 rfl) ?_
  refine va_get (D := (dC, dI)) (ci := 11) (v := .int 0) (C := RX11) (T := TX11) (N := 7) hx hb hG inGX11 hown hK hP 0 rfl rfl 5 (by decide) (hG _ wd_400) (fun _ h9 => h9) rfl dX11_end_6 ?_
  refine lv_icmp_le (tgt := 14) hx hb dX11_end_9 (by decide) (fun c => absurd c (iv_nle ix0 (by decide : iv 0 0 0) (by decide))) (fun _ => ?_)
  refine lv_iconst (v := 0) hx hb dX11_end_12 (by decide) ?_
  have hP9 := hP.sub (ws' := [(h0, .inr (11, [.ref h1, .ref h2, .ref h3, .ref h4, .ref h5, .int 0, .int 0]))]) [0] rfl
  have hD9 := hD.sub (ws' := [(h0, .inr (11, [.ref h1, .ref h2, .ref h3, .ref h4, .ref h5, .int 0, .int 0]))]) [0] (by decide) rfl
  have hK9 := hK.sub (tys' := []) [] rfl
  exact W.zret (v := 0) hx hb hr rfl (fun t ht hW => ⟨⟨0, (), rfl, ⟨rfl, trivial⟩, by rw [ht]; exact hP9, va_K.moved hW.alike hK9, hD9⟩, hS.F ht⟩) hS.2.2 dX11_end_13
set_option maxHeartbeats 4000000 in
set_option maxRecDepth 100000 in
theorem cX11_end_3 (l : Launch) (dC : Nat → ClassId) (dI : Nat → Nat → Nat) (h0 h1 h2 h3 h4 h5 : Nat) (sz : Nat) (x0 : Int32) (ix0 : iv x0 0 0) : Met l yX11_end (Cond.code yX11_end cX11_end 2 (some .boolean) :: lw_G) ({ frames := 0, cells := 0, slots := 0, locals := 0 }) (va_Pc [.ref h0, .int x0] (fun U => U.heap.size = sz ∧ va_P (dC, dI) vwCl [(h0, .inr (11, [.ref h1, .ref h2, .ref h3, .ref h4, .ref h5, .int 0, .int 0]))] U.heap ∧ va_K (dC, dI) vwCl [] U ∧ va_D (fun _ => True) [(h0, .inr (11, [.ref h1, .ref h2, .ref h3, .ref h4, .ref h5, .int 0, .int 0]))])) (va_Qi (fun (r : Int32) (u : Unit) => r = 1 ∧ True) (fun (u : Unit) (t : State) => va_P (dC, dI) vwCl [(h0, .inr (11, [.ref h1, .ref h2, .ref h3, .ref h4, .ref h5, .int x0, .int 0]))] t.heap ∧ va_K (dC, dI) vwCl [] t ∧ va_D (va_A [(h0, .inr (11, [.ref h1, .ref h2, .ref h3, .ref h4, .ref h5, .int 0, .int 0]))] sz) [(h0, .inr (11, [.ref h1, .ref h2, .ref h3, .ref h4, .ref h5, .int x0, .int 0]))]) (va_A [(h0, .inr (11, [.ref h1, .ref h2, .ref h3, .ref h4, .ref h5, .int 0, .int 0]))] sz)) 0 0 (va_A [(h0, .inr (11, [.ref h1, .ref h2, .ref h3, .ref h4, .ref h5, .int 0, .int 0]))] sz) := by
  refine Met.ofW (cc := cX11_end) (maxL := 2) (ret := (some .boolean)) (by decide) rfl ?_
  intro p e s m args below meth c s₁ B hml hv
  obtain ⟨rfl, hsz, hP, hK, hD0⟩ := hv
  have hx := B.exec
  have hb := B.bytes
  have hr := B.returns
  have hts0 := atoms_spec (ws := Cond.code yX11_end cX11_end 2 (some .boolean) :: lw_G) B.pre
  have hG : ∀ w ∈ lw_G, w.before _ s = true := fun w h => hts0 w (List.mem_cons_of_mem _ h)
  have hown : s.vm.findClass RX11 = some m.cls := findClass_of_methodNamed B.named
  have hlocks := B.notSynchronized
  subst hsz
  have hD := hD0.self (sz := s.heap.size)
  generalize hAe : va_A [(h0, .inr (11, [.ref h1, .ref h2, .ref h3, .ref h4, .ref h5, .int 0, .int 0]))] s.heap.size = A at hD ⊢
  have hA : ∀ q : Nat, s.heap.size ≤ q → A q := fun q h => by rw [← hAe]; exact Or.inr h
  have hS : va_S A s.heap s.heap [] := va_S.rf
  have hP : va_P (dC, dI) vwCl [(h0, .inr (11, [.ref h1, .ref h2, .ref h3, .ref h4, .ref h5, .int 0, .int 0]))] s.heap := hP
  have hl := lv_entry ([.ref h0, .int x0]) (n := 2) (Nat.le_of_ble_eq_true rfl)
  rw [lg_entry_eq]
  generalize (lg_sl ([.ref h0, .int x0]) ++ List.replicate (2 - (lg_sl ([.ref h0, .int x0])).length) Slot.unset).toArray = ls at hl ⊢
  have hl : lv_has ls 2 [(0, .ref h0), (1, .int x0)] := hl
  refine lv_iload_n hx hb dX11_end_0 rfl (lv_at hl 1 rfl) ?_
  refine lv_if_lt (tgt := 12) hx hb dX11_end_1 (by decide) (fun c => absurd c (iv_nlt ix0 (by decide : iv 0 0 0) (by decide))) (fun _ => ?_)
  refine lv_iload_n hx hb dX11_end_4 rfl (lv_at hl 1 rfl) ?_
  refine lv_aload_n hx hb dX11_end_5 rfl (lv_at hl 0 rfl) ?_
  refine va_get (D := (dC, dI)) (ci := 11) (v := .int 0) (C := RX11) (T := TX11) (N := 7) hx hb hG inGX11 hown hK hP 0 rfl rfl 5 (by decide) (hG _ wd_400) (fun _ h9 => h9) rfl dX11_end_6 ?_
  refine lv_icmp_le (tgt := 14) hx hb dX11_end_9 (by decide) (fun _ => ?_) (fun c => absurd (iv_le ix0 (by decide : iv 0 0 0) (by decide)) c)
  refine lv_aload_n hx hb dX11_end_14 rfl (lv_at hl 0 rfl) ?_
  refine lv_iload_n hx hb dX11_end_15 rfl (lv_at hl 1 rfl) ?_
  refine va_put (D := (dC, dI)) (ci := 11) (v := .int x0) (ty := .int) (C := RX11) (T := TX11) (N := 7) hx hb hG inGX11 tyX11 tyX11_ok nmX11 hown hK hP hD hS 0 rfl rfl 5 (by decide) (hG _ wd_400) (fun _ h9 => h9) rfl (by decide +kernel) rfl rfl (Nat.le_of_ble_eq_true rfl) dX11_end_16 (fun H locs hP hD hS => ?_)
  have hP : va_P (dC, dI) vwCl [(h0, .inr (11, [.ref h1, .ref h2, .ref h3, .ref h4, .ref h5, .int x0, .int 0]))] H := hP
  have hD : va_D A [(h0, .inr (11, [.ref h1, .ref h2, .ref h3, .ref h4, .ref h5, .int x0, .int 0]))] := hD
  refine lv_iconst (v := 1) hx hb dX11_end_19 (by decide) ?_
  have hP9 := hP.sub (ws' := [(h0, .inr (11, [.ref h1, .ref h2, .ref h3, .ref h4, .ref h5, .int x0, .int 0]))]) [0] rfl
  have hD9 := hD.sub (ws' := [(h0, .inr (11, [.ref h1, .ref h2, .ref h3, .ref h4, .ref h5, .int x0, .int 0]))]) [0] (by decide) rfl
  have hK9 := hK.sub (tys' := []) [] rfl
  exact W.zret (v := 1) hx hb hr rfl (fun t ht hW => ⟨⟨1, (), rfl, ⟨rfl, trivial⟩, by rw [ht]; exact hP9, va_K.moved hW.alike hK9, hD9⟩, hS.F ht⟩) hS.2.2 dX11_end_20
set_option maxHeartbeats 4000000 in
set_option maxRecDepth 100000 in
theorem cX10_sign_1 (l : Launch) (dC : Nat → ClassId) (dI : Nat → Nat → Nat) (h0 h1 h2 h3 h4 h5 h6 : Nat) (sz : Nat) : Met l yX10_sign (Cond.code yX10_sign cX10_sign 2 (some .int) :: lw_G) ({ frames := 0, cells := 0, slots := 0, locals := 0 }) (va_Pc [.ref h0, .int 0] (fun U => U.heap.size = sz ∧ va_P (dC, dI) vwCl [(h0, .inr (10, [.ref h1, .ref h2, .ref h3, .ref h4, .ref h5, .ref h6, .int 0, .int 0, .int 0, .int 0, .int 0, .long 0]))] U.heap ∧ va_K (dC, dI) vwCl [] U ∧ va_D (fun _ => True) [(h0, .inr (10, [.ref h1, .ref h2, .ref h3, .ref h4, .ref h5, .ref h6, .int 0, .int 0, .int 0, .int 0, .int 0, .long 0]))])) (va_Qi (fun (r : Int32) (u : Unit) => r = (-1) ∧ True) (fun (u : Unit) (t : State) => va_P (dC, dI) vwCl [(h0, .inr (10, [.ref h1, .ref h2, .ref h3, .ref h4, .ref h5, .ref h6, .int 0, .int 0, .int 0, .int 0, .int 0, .long 0]))] t.heap ∧ va_K (dC, dI) vwCl [] t ∧ va_D (va_A [(h0, .inr (10, [.ref h1, .ref h2, .ref h3, .ref h4, .ref h5, .ref h6, .int 0, .int 0, .int 0, .int 0, .int 0, .long 0]))] sz) [(h0, .inr (10, [.ref h1, .ref h2, .ref h3, .ref h4, .ref h5, .ref h6, .int 0, .int 0, .int 0, .int 0, .int 0, .long 0]))]) (va_A [(h0, .inr (10, [.ref h1, .ref h2, .ref h3, .ref h4, .ref h5, .ref h6, .int 0, .int 0, .int 0, .int 0, .int 0, .long 0]))] sz)) 0 0 (va_A [(h0, .inr (10, [.ref h1, .ref h2, .ref h3, .ref h4, .ref h5, .ref h6, .int 0, .int 0, .int 0, .int 0, .int 0, .long 0]))] sz) := by
  refine Met.ofW (cc := cX10_sign) (maxL := 2) (ret := (some .int)) (by decide) rfl ?_
  intro p e s m args below meth c s₁ B hml hv
  obtain ⟨rfl, hsz, hP, hK, hD0⟩ := hv
  have hx := B.exec
  have hb := B.bytes
  have hr := B.returns
  have hts0 := atoms_spec (ws := Cond.code yX10_sign cX10_sign 2 (some .int) :: lw_G) B.pre
  have hG : ∀ w ∈ lw_G, w.before _ s = true := fun w h => hts0 w (List.mem_cons_of_mem _ h)
  have hown : s.vm.findClass RX10 = some m.cls := findClass_of_methodNamed B.named
  have hlocks := B.notSynchronized
  subst hsz
  have hD := hD0.self (sz := s.heap.size)
  generalize hAe : va_A [(h0, .inr (10, [.ref h1, .ref h2, .ref h3, .ref h4, .ref h5, .ref h6, .int 0, .int 0, .int 0, .int 0, .int 0, .long 0]))] s.heap.size = A at hD ⊢
  have hA : ∀ q : Nat, s.heap.size ≤ q → A q := fun q h => by rw [← hAe]; exact Or.inr h
  have hS : va_S A s.heap s.heap [] := va_S.rf
  have hP : va_P (dC, dI) vwCl [(h0, .inr (10, [.ref h1, .ref h2, .ref h3, .ref h4, .ref h5, .ref h6, .int 0, .int 0, .int 0, .int 0, .int 0, .long 0]))] s.heap := hP
  have hl := lv_entry ([.ref h0, .int 0]) (n := 2) (Nat.le_of_ble_eq_true rfl)
  rw [lg_entry_eq]
  generalize (lg_sl ([.ref h0, .int 0]) ++ List.replicate (2 - (lg_sl ([.ref h0, .int 0])).length) Slot.unset).toArray = ls at hl ⊢
  have hl : lv_has ls 2 [(0, .ref h0), (1, .int 0)] := hl
  refine lv_iload_n hx hb dX10_sign_0 rfl (lv_at hl 1 rfl) ?_
  refine lv_if_lt (tgt := 21) hx hb dX10_sign_1 (by decide) (fun c => absurd c (by decide)) (fun _ => ?_)
  refine lv_iload_n hx hb dX10_sign_4 rfl (lv_at hl 1 rfl) ?_
  refine lv_aload_n hx hb dX10_sign_5 rfl (lv_at hl 0 rfl) ?_
  refine va_get (D := (dC, dI)) (ci := 10) (v := .int 0) (C := RX10) (T := TX10) (N := 12) hx hb hG inGX10 hown hK hP 0 rfl rfl 6 (by decide) (hG _ wd_289) (fun _ h9 => h9) rfl dX10_sign_6 ?_
  refine lv_icmp_ge (tgt := 21) hx hb dX10_sign_9 (by decide) (fun _ => ?_) (fun c => absurd (by decide) c)
  refine lv_iconst (v := (-1)) hx hb dX10_sign_21 (by decide) ?_
  have hP9 := hP.sub (ws' := [(h0, .inr (10, [.ref h1, .ref h2, .ref h3, .ref h4, .ref h5, .ref h6, .int 0, .int 0, .int 0, .int 0, .int 0, .long 0]))]) [0] rfl
  have hD9 := hD.sub (ws' := [(h0, .inr (10, [.ref h1, .ref h2, .ref h3, .ref h4, .ref h5, .ref h6, .int 0, .int 0, .int 0, .int 0, .int 0, .long 0]))]) [0] (by decide) rfl
  have hK9 := hK.sub (tys' := []) [] rfl
  exact W.iret (v := (-1)) hx hb hr (fun t ht hW => ⟨⟨(-1), (), rfl, ⟨rfl, trivial⟩, by rw [ht]; exact hP9, va_K.moved hW.alike hK9, hD9⟩, hS.F ht⟩) hS.2.2 dX10_sign_22
set_option maxHeartbeats 4000000 in
set_option maxRecDepth 100000 in
theorem cX10_passBlanks_1 (l : Launch) (dC : Nat → ClassId) (dI : Nat → Nat → Nat) (h0 h1 h2 h3 h4 h5 h6 : Nat) (sz : Nat) : Met l yX10_passBlanks (Cond.code yX10_passBlanks cX10_passBlanks 3 (some .int) :: lw_G) ({ frames := 1, cells := 0, slots := 0, locals := 21 }) (va_Pc [.ref h0, .int 0] (fun U => U.heap.size = sz ∧ va_P (dC, dI) vwCl [(h0, .inr (10, [.ref h1, .ref h2, .ref h3, .ref h4, .ref h5, .ref h6, .int 0, .int 0, .int 0, .int 0, .int 0, .long 0]))] U.heap ∧ va_K (dC, dI) vwCl [] U ∧ va_D (fun _ => True) [(h0, .inr (10, [.ref h1, .ref h2, .ref h3, .ref h4, .ref h5, .ref h6, .int 0, .int 0, .int 0, .int 0, .int 0, .long 0]))])) (va_Qi (fun (r : Int32) (u : Unit) => r = 0 ∧ True) (fun (u : Unit) (t : State) => va_P (dC, dI) vwCl [(h0, .inr (10, [.ref h1, .ref h2, .ref h3, .ref h4, .ref h5, .ref h6, .int 0, .int 0, .int 0, .int 0, .int 0, .long 0]))] t.heap ∧ va_K (dC, dI) vwCl [] t ∧ va_D (va_A [(h0, .inr (10, [.ref h1, .ref h2, .ref h3, .ref h4, .ref h5, .ref h6, .int 0, .int 0, .int 0, .int 0, .int 0, .long 0]))] sz) [(h0, .inr (10, [.ref h1, .ref h2, .ref h3, .ref h4, .ref h5, .ref h6, .int 0, .int 0, .int 0, .int 0, .int 0, .long 0]))]) (va_A [(h0, .inr (10, [.ref h1, .ref h2, .ref h3, .ref h4, .ref h5, .ref h6, .int 0, .int 0, .int 0, .int 0, .int 0, .long 0]))] sz)) 0 0 (va_A [(h0, .inr (10, [.ref h1, .ref h2, .ref h3, .ref h4, .ref h5, .ref h6, .int 0, .int 0, .int 0, .int 0, .int 0, .long 0]))] sz) := by
  refine Met.ofW (cc := cX10_passBlanks) (maxL := 3) (ret := (some .int)) (by decide) rfl ?_
  intro p e s m args below meth c s₁ B hml hv
  obtain ⟨rfl, hsz, hP, hK, hD0⟩ := hv
  have hx := B.exec
  have hb := B.bytes
  have hr := B.returns
  have hts0 := atoms_spec (ws := Cond.code yX10_passBlanks cX10_passBlanks 3 (some .int) :: lw_G) B.pre
  have hG : ∀ w ∈ lw_G, w.before _ s = true := fun w h => hts0 w (List.mem_cons_of_mem _ h)
  have hown : s.vm.findClass RX10 = some m.cls := findClass_of_methodNamed B.named
  have hlocks := B.notSynchronized
  subst hsz
  have hD := hD0.self (sz := s.heap.size)
  generalize hAe : va_A [(h0, .inr (10, [.ref h1, .ref h2, .ref h3, .ref h4, .ref h5, .ref h6, .int 0, .int 0, .int 0, .int 0, .int 0, .long 0]))] s.heap.size = A at hD ⊢
  have hA : ∀ q : Nat, s.heap.size ≤ q → A q := fun q h => by rw [← hAe]; exact Or.inr h
  have hS : va_S A s.heap s.heap [] := va_S.rf
  have hP : va_P (dC, dI) vwCl [(h0, .inr (10, [.ref h1, .ref h2, .ref h3, .ref h4, .ref h5, .ref h6, .int 0, .int 0, .int 0, .int 0, .int 0, .long 0]))] s.heap := hP
  have hl := lv_entry ([.ref h0, .int 0]) (n := 3) (Nat.le_of_ble_eq_true rfl)
  rw [lg_entry_eq]
  generalize (lg_sl ([.ref h0, .int 0]) ++ List.replicate (3 - (lg_sl ([.ref h0, .int 0])).length) Slot.unset).toArray = ls at hl ⊢
  have hl : lv_has ls 3 [(0, .ref h0), (1, .int 0)] := hl
  refine lv_iload_n hx hb dX10_passBlanks_0 rfl (lv_at hl 1 rfl) ?_
  refine lv_istore_n (lv' := [(2, .int 0), (0, .ref h0), (1, .int 0)]) hx hb dX10_passBlanks_1 rfl hl (by decide) rfl (fun ls hl => ?_)
  refine lv_iload_n hx hb dX10_passBlanks_2 rfl (lv_at hl 0 rfl) ?_
  refine lv_aload_n hx hb dX10_passBlanks_3 rfl (lv_at hl 1 rfl) ?_
  refine va_get (D := (dC, dI)) (ci := 10) (v := .int 0) (C := RX10) (T := TX10) (N := 12) hx hb hG inGX10 hown hK hP 0 rfl rfl 6 (by decide) (hG _ wd_289) (fun _ h9 => h9) rfl dX10_passBlanks_4 ?_
  refine lv_icmp_ge (tgt := 26) hx hb dX10_passBlanks_7 (by decide) (fun _ => ?_) (fun c => absurd (by decide) c)
  refine lv_aload_n hx hb dX10_passBlanks_26 rfl (lv_at hl 1 rfl) ?_
  refine lv_iload_n hx hb dX10_passBlanks_27 rfl (lv_at hl 0 rfl) ?_
  have hPc := hP.sub (ws' := [(h0, .inr (10, [.ref h1, .ref h2, .ref h3, .ref h4, .ref h5, .ref h6, .int 0, .int 0, .int 0, .int 0, .int 0, .long 0]))]) [0] rfl
  have hDc := hD.sub (ws' := [(h0, .inr (10, [.ref h1, .ref h2, .ref h3, .ref h4, .ref h5, .ref h6, .int 0, .int 0, .int 0, .int 0, .int 0, .long 0]))]) [0] (by decide) rfl
  have hKc := hK.sub (tys' := []) [] rfl
  have hFc := va_free (wc := [(h0, .inr (10, [.ref h1, .ref h2, .ref h3, .ref h4, .ref h5, .ref h6, .int 0, .int 0, .int 0, .int 0, .int 0, .long 0]))]) hD hS hA [0] rfl
  refine va_calli (va_runV (As := [.int 0]) (rest := []) ⟨hx, hb, hml, hown, hG⟩ (cX10_sign_1 l dC dI h0 h1 h2 h3 h4 h5 h6 s.heap.size) (cwV 1 hG (gV wd_449 wd_451 wp_3 wd_11 wd_452) rfl rfl rfl (by decide +kernel) ⟨Nat.le_of_ble_eq_true rfl, Nat.le_of_ble_eq_true rfl⟩) ⟨fun a U g mk q => by obtain ⟨q0, q1, qP, qK, qD⟩ := q; exact ⟨q0, q1, qP, va_K.moved (u := U) (U := U.calling g mk a) (Vm.Alike.refl U.vm) qK, qD⟩, va_recv hKc hPc (ci := 10) (q0 := 0) rfl rfl, fun U hU hW => ⟨rfl, by rw [hU], by rw [hU]; exact hPc, va_K.moved hW.alike hKc, hDc.weaken (fun _ _ _ _ => trivial)⟩⟩ rfl rfl hl.1 rfl (lv_room (Nat.le_of_ble_eq_true rfl)) dX10_passBlanks_28 ⟨by decide, by decide⟩) hS (fun q _ h => hFc q h) hFc (fun r1 u2 t H1 locs ht hvm hw hB hz1 hk1 hS => ?_)
  have hw : r1 = (-1) ∧ True := hw
  obtain ⟨er1, -⟩ := hw
  obtain ⟨hP1, hK1, hD1⟩ := hB
  rw [ht] at hP1
  have hK1 := va_K.moved hvm.symm hK1
  obtain ⟨hP, hD⟩ := va_join (wr := []) (w1 := [(h0, .inr (10, [.ref h1, .ref h2, .ref h3, .ref h4, .ref h5, .ref h6, .int 0, .int 0, .int 0, .int 0, .int 0, .long 0]))]) hP hD [0] [] rfl rfl (by decide) (by decide) hk1 hFc hP1 hD1
  have hK := (hK.sub (tys' := []) [] rfl).app hK1
  generalize H1 = H at hP hS ⊢
  have hP : va_P (dC, dI) vwCl [(h0, .inr (10, [.ref h1, .ref h2, .ref h3, .ref h4, .ref h5, .ref h6, .int 0, .int 0, .int 0, .int 0, .int 0, .long 0]))] H := hP
  have hD : va_D A [(h0, .inr (10, [.ref h1, .ref h2, .ref h3, .ref h4, .ref h5, .ref h6, .int 0, .int 0, .int 0, .int 0, .int 0, .long 0]))] := hD
  have hK : va_K (dC, dI) vwCl [] s := hK
  subst er1
  refine lv_bipush (v := 59) hx hb dX10_passBlanks_31 (by decide) ?_
  refine lv_icmp_ne (tgt := 60) hx hb dX10_passBlanks_33 (by decide) (fun _ => ?_) (fun c => absurd c (by decide))
  refine lv_iload_n hx hb dX10_passBlanks_60 rfl (lv_at hl 0 rfl) ?_
  have hP9 := hP.sub (ws' := [(h0, .inr (10, [.ref h1, .ref h2, .ref h3, .ref h4, .ref h5, .ref h6, .int 0, .int 0, .int 0, .int 0, .int 0, .long 0]))]) [0] rfl
  have hD9 := hD.sub (ws' := [(h0, .inr (10, [.ref h1, .ref h2, .ref h3, .ref h4, .ref h5, .ref h6, .int 0, .int 0, .int 0, .int 0, .int 0, .long 0]))]) [0] (by decide) rfl
  have hK9 := hK.sub (tys' := []) [] rfl
  exact W.iret (v := 0) hx hb hr (fun t ht hW => ⟨⟨0, (), rfl, ⟨rfl, trivial⟩, by rw [ht]; exact hP9, va_K.moved hW.alike hK9, hD9⟩, hS.F ht⟩) hS.2.2 dX10_passBlanks_61
set_option maxHeartbeats 4000000 in
set_option maxRecDepth 100000 in
theorem cX10_scanOne_1 (l : Launch) (dC : Nat → ClassId) (dI : Nat → Nat → Nat) (h0 h1 h2 h3 h4 h5 h6 : Nat) (sz : Nat) : Met l yX10_scanOne (Cond.code yX10_scanOne cX10_scanOne 4 (some .int) :: lw_G) ({ frames := 1, cells := 0, slots := 0, locals := 21 }) (va_Pc [.ref h0, .int 0, .int 1] (fun U => U.heap.size = sz ∧ va_P (dC, dI) vwCl [(h0, .inr (10, [.ref h1, .ref h2, .ref h3, .ref h4, .ref h5, .ref h6, .int 0, .int 0, .int 0, .int 0, .int 0, .long 0]))] U.heap ∧ va_K (dC, dI) vwCl [] U ∧ va_D (fun _ => True) [(h0, .inr (10, [.ref h1, .ref h2, .ref h3, .ref h4, .ref h5, .ref h6, .int 0, .int 0, .int 0, .int 0, .int 0, .long 0]))])) (va_Qi (fun (r : Int32) (u : Unit) => r = 1 ∧ True) (fun (u : Unit) (t : State) => va_P (dC, dI) vwCl [(h0, .inr (10, [.ref h1, .ref h2, .ref h3, .ref h4, .ref h5, .ref h6, .int 0, .int 0, .int 0, .int 0, .int 0, .long 0]))] t.heap ∧ va_K (dC, dI) vwCl [] t ∧ va_D (va_A [(h0, .inr (10, [.ref h1, .ref h2, .ref h3, .ref h4, .ref h5, .ref h6, .int 0, .int 0, .int 0, .int 0, .int 0, .long 0]))] sz) [(h0, .inr (10, [.ref h1, .ref h2, .ref h3, .ref h4, .ref h5, .ref h6, .int 0, .int 0, .int 0, .int 0, .int 0, .long 0]))]) (va_A [(h0, .inr (10, [.ref h1, .ref h2, .ref h3, .ref h4, .ref h5, .ref h6, .int 0, .int 0, .int 0, .int 0, .int 0, .long 0]))] sz)) 0 0 (va_A [(h0, .inr (10, [.ref h1, .ref h2, .ref h3, .ref h4, .ref h5, .ref h6, .int 0, .int 0, .int 0, .int 0, .int 0, .long 0]))] sz) := by
  refine Met.ofW (cc := cX10_scanOne) (maxL := 4) (ret := (some .int)) (by decide) rfl ?_
  intro p e s m args below meth c s₁ B hml hv
  obtain ⟨rfl, hsz, hP, hK, hD0⟩ := hv
  have hx := B.exec
  have hb := B.bytes
  have hr := B.returns
  have hts0 := atoms_spec (ws := Cond.code yX10_scanOne cX10_scanOne 4 (some .int) :: lw_G) B.pre
  have hG : ∀ w ∈ lw_G, w.before _ s = true := fun w h => hts0 w (List.mem_cons_of_mem _ h)
  have hown : s.vm.findClass RX10 = some m.cls := findClass_of_methodNamed B.named
  have hlocks := B.notSynchronized
  subst hsz
  have hD := hD0.self (sz := s.heap.size)
  generalize hAe : va_A [(h0, .inr (10, [.ref h1, .ref h2, .ref h3, .ref h4, .ref h5, .ref h6, .int 0, .int 0, .int 0, .int 0, .int 0, .long 0]))] s.heap.size = A at hD ⊢
  have hA : ∀ q : Nat, s.heap.size ≤ q → A q := fun q h => by rw [← hAe]; exact Or.inr h
  have hS : va_S A s.heap s.heap [] := va_S.rf
  have hP : va_P (dC, dI) vwCl [(h0, .inr (10, [.ref h1, .ref h2, .ref h3, .ref h4, .ref h5, .ref h6, .int 0, .int 0, .int 0, .int 0, .int 0, .long 0]))] s.heap := hP
  have hl := lv_entry ([.ref h0, .int 0, .int 1]) (n := 4) (Nat.le_of_ble_eq_true rfl)
  rw [lg_entry_eq]
  generalize (lg_sl ([.ref h0, .int 0, .int 1]) ++ List.replicate (4 - (lg_sl ([.ref h0, .int 0, .int 1])).length) Slot.unset).toArray = ls at hl ⊢
  have hl : lv_has ls 4 [(0, .ref h0), (1, .int 0), (2, .int 1)] := hl
  refine lv_aload_n hx hb dX10_scanOne_0 rfl (lv_at hl 0 rfl) ?_
  refine lv_iload_n hx hb dX10_scanOne_1 rfl (lv_at hl 1 rfl) ?_
  have hPc := hP.sub (ws' := [(h0, .inr (10, [.ref h1, .ref h2, .ref h3, .ref h4, .ref h5, .ref h6, .int 0, .int 0, .int 0, .int 0, .int 0, .long 0]))]) [0] rfl
  have hDc := hD.sub (ws' := [(h0, .inr (10, [.ref h1, .ref h2, .ref h3, .ref h4, .ref h5, .ref h6, .int 0, .int 0, .int 0, .int 0, .int 0, .long 0]))]) [0] (by decide) rfl
  have hKc := hK.sub (tys' := []) [] rfl
  have hFc := va_free (wc := [(h0, .inr (10, [.ref h1, .ref h2, .ref h3, .ref h4, .ref h5, .ref h6, .int 0, .int 0, .int 0, .int 0, .int 0, .long 0]))]) hD hS hA [0] rfl
  refine va_calli (va_runV (As := [.int 0]) (rest := []) ⟨hx, hb, hml, hown, hG⟩ (cX10_sign_1 l dC dI h0 h1 h2 h3 h4 h5 h6 s.heap.size) (cwV 1 hG (gV wd_449 wd_451 wp_3 wd_11 wd_452) rfl rfl rfl (by decide +kernel) ⟨Nat.le_of_ble_eq_true rfl, Nat.le_of_ble_eq_true rfl⟩) ⟨fun a U g mk q => by obtain ⟨q0, q1, qP, qK, qD⟩ := q; exact ⟨q0, q1, qP, va_K.moved (u := U) (U := U.calling g mk a) (Vm.Alike.refl U.vm) qK, qD⟩, va_recv hKc hPc (ci := 10) (q0 := 0) rfl rfl, fun U hU hW => ⟨rfl, by rw [hU], by rw [hU]; exact hPc, va_K.moved hW.alike hKc, hDc.weaken (fun _ _ _ _ => trivial)⟩⟩ rfl rfl hl.1 rfl (lv_room (Nat.le_of_ble_eq_true rfl)) dX10_scanOne_2 ⟨by decide, by decide⟩) hS (fun q _ h => hFc q h) hFc (fun r1 u2 t H1 locs ht hvm hw hB hz1 hk1 hS => ?_)
  have hw : r1 = (-1) ∧ True := hw
  obtain ⟨er1, -⟩ := hw
  obtain ⟨hP1, hK1, hD1⟩ := hB
  rw [ht] at hP1
  have hK1 := va_K.moved hvm.symm hK1
  obtain ⟨hP, hD⟩ := va_join (wr := []) (w1 := [(h0, .inr (10, [.ref h1, .ref h2, .ref h3, .ref h4, .ref h5, .ref h6, .int 0, .int 0, .int 0, .int 0, .int 0, .long 0]))]) hP hD [0] [] rfl rfl (by decide) (by decide) hk1 hFc hP1 hD1
  have hK := (hK.sub (tys' := []) [] rfl).app hK1
  generalize H1 = H at hP hS ⊢
  have hP : va_P (dC, dI) vwCl [(h0, .inr (10, [.ref h1, .ref h2, .ref h3, .ref h4, .ref h5, .ref h6, .int 0, .int 0, .int 0, .int 0, .int 0, .long 0]))] H := hP
  have hD : va_D A [(h0, .inr (10, [.ref h1, .ref h2, .ref h3, .ref h4, .ref h5, .ref h6, .int 0, .int 0, .int 0, .int 0, .int 0, .long 0]))] := hD
  have hK : va_K (dC, dI) vwCl [] s := hK
  subst er1
  refine lv_istore_n (lv' := [(3, .int (-1)), (0, .ref h0), (1, .int 0), (2, .int 1)]) hx hb dX10_scanOne_5 rfl hl (by decide) rfl (fun ls hl => ?_)
  refine lv_aload_n hx hb dX10_scanOne_6 rfl (lv_at hl 1 rfl) ?_
  refine lv_iconst (v := 0) hx hb dX10_scanOne_7 (by decide) ?_
  refine va_put (D := (dC, dI)) (ci := 10) (v := .int 0) (ty := .int) (C := RX10) (T := TX10) (N := 12) hx hb hG inGX10 tyX10 tyX10_ok nmX10 hown hK hP hD hS 0 rfl rfl 10 (by decide) (hG _ wd_293) (fun _ h9 => h9) rfl (by decide +kernel) rfl rfl (Nat.le_of_ble_eq_true rfl) dX10_scanOne_8 (fun H locs hP hD hS => ?_)
  have hP : va_P (dC, dI) vwCl [(h0, .inr (10, [.ref h1, .ref h2, .ref h3, .ref h4, .ref h5, .ref h6, .int 0, .int 0, .int 0, .int 0, .int 0, .long 0]))] H := hP
  have hD : va_D A [(h0, .inr (10, [.ref h1, .ref h2, .ref h3, .ref h4, .ref h5, .ref h6, .int 0, .int 0, .int 0, .int 0, .int 0, .long 0]))] := hD
  refine lv_aload_n hx hb dX10_scanOne_11 rfl (lv_at hl 1 rfl) ?_
  refine lv_lconst (v := 0) hx hb dX10_scanOne_12 (by decide) ?_
  refine va_put (D := (dC, dI)) (ci := 10) (v := .long 0) (ty := .long) (C := RX10) (T := TX10) (N := 12) hx hb hG inGX10 tyX10 tyX10_ok nmX10 hown hK hP hD hS 0 rfl rfl 11 (by decide) (hG _ wd_294) (fun _ h9 => h9) rfl (by decide +kernel) rfl rfl (Nat.le_of_ble_eq_true rfl) dX10_scanOne_13 (fun H locs hP hD hS => ?_)
  have hP : va_P (dC, dI) vwCl [(h0, .inr (10, [.ref h1, .ref h2, .ref h3, .ref h4, .ref h5, .ref h6, .int 0, .int 0, .int 0, .int 0, .int 0, .long 0]))] H := hP
  have hD : va_D A [(h0, .inr (10, [.ref h1, .ref h2, .ref h3, .ref h4, .ref h5, .ref h6, .int 0, .int 0, .int 0, .int 0, .int 0, .long 0]))] := hD
  refine lv_iload_n hx hb dX10_scanOne_16 rfl (lv_at hl 0 rfl) ?_
  refine lv_iconst (v := (-1)) hx hb dX10_scanOne_17 (by decide) ?_
  refine lv_icmp_eq (tgt := 27) hx hb dX10_scanOne_18 (by decide) (fun _ => ?_) (fun c => absurd (by decide) c)
  refine lv_aload_n hx hb dX10_scanOne_27 rfl (lv_at hl 1 rfl) ?_
  refine lv_iconst (v := 0) hx hb dX10_scanOne_28 (by decide) ?_
  refine va_put (D := (dC, dI)) (ci := 10) (v := .int 0) (ty := .int) (C := RX10) (T := TX10) (N := 12) hx hb hG inGX10 tyX10 tyX10_ok nmX10 hown hK hP hD hS 0 rfl rfl 9 (by decide) (hG _ wd_292) (fun _ h9 => h9) rfl (by decide +kernel) rfl rfl (Nat.le_of_ble_eq_true rfl) dX10_scanOne_29 (fun H locs hP hD hS => ?_)
  have hP : va_P (dC, dI) vwCl [(h0, .inr (10, [.ref h1, .ref h2, .ref h3, .ref h4, .ref h5, .ref h6, .int 0, .int 0, .int 0, .int 0, .int 0, .long 0]))] H := hP
  have hD : va_D A [(h0, .inr (10, [.ref h1, .ref h2, .ref h3, .ref h4, .ref h5, .ref h6, .int 0, .int 0, .int 0, .int 0, .int 0, .long 0]))] := hD
  refine lv_goto (tgt := 122) hx hb dX10_scanOne_32 (by decide) ?_
  refine lv_iload_n hx hb dX10_scanOne_122 rfl (lv_at hl 2 rfl) ?_
  refine lv_iconst (v := 1) hx hb dX10_scanOne_123 (by decide) ?_
  refine lv_iadd hx hb dX10_scanOne_124 ?_
  refine lv_val (y := 1) (by decide +kernel) ?_
  have hP9 := hP.sub (ws' := [(h0, .inr (10, [.ref h1, .ref h2, .ref h3, .ref h4, .ref h5, .ref h6, .int 0, .int 0, .int 0, .int 0, .int 0, .long 0]))]) [0] rfl
  have hD9 := hD.sub (ws' := [(h0, .inr (10, [.ref h1, .ref h2, .ref h3, .ref h4, .ref h5, .ref h6, .int 0, .int 0, .int 0, .int 0, .int 0, .long 0]))]) [0] (by decide) rfl
  have hK9 := hK.sub (tys' := []) [] rfl
  exact W.iret (v := 1) hx hb hr (fun t ht hW => ⟨⟨1, (), rfl, ⟨rfl, trivial⟩, by rw [ht]; exact hP9, va_K.moved hW.alike hK9, hD9⟩, hS.F ht⟩) hS.2.2 dX10_scanOne_125
set_option maxHeartbeats 4000000 in
set_option maxRecDepth 100000 in
theorem cX10_scan_1 (l : Launch) (dC : Nat → ClassId) (dI : Nat → Nat → Nat) (h0 h1 h2 h3 h4 h5 h6 : Nat) (y0 y1 y2 y3 y4 : ClassId) (sz : Nat) : Met l yX10_scan (Cond.code yX10_scan cX10_scan 6 none :: lw_G) ({ frames := 2, cells := 0, slots := 0, locals := 44 }) (va_Pc [.ref h0, .int 0] (fun U => U.heap.size = sz ∧ va_P (dC, dI) vwCl [(h0, .inr (10, [.ref h1, .ref h2, .ref h3, .ref h4, .ref h5, .ref h6, .int 0, .int 0, .int 0, .int 0, .int 0, .long 0])), (h6, .inl (y0, 2600, .inl (fun _ => 0))), (h1, .inl (y1, 2501, .inl (fun _ => 0))), (h2, .inl (y2, 2501, .inl (fun _ => 0))), (h3, .inl (y3, 2501, .inl (fun _ => 0))), (h4, .inl (y4, 2501, .inr (.inl (fun _ => 0))))] U.heap ∧ va_K (dC, dI) vwCl [(y0, .int), (y1, .int), (y2, .int), (y3, .int), (y4, .long)] U ∧ va_D (fun _ => True) [(h0, .inr (10, [.ref h1, .ref h2, .ref h3, .ref h4, .ref h5, .ref h6, .int 0, .int 0, .int 0, .int 0, .int 0, .long 0])), (h6, .inl (y0, 2600, .inl (fun _ => 0))), (h1, .inl (y1, 2501, .inl (fun _ => 0))), (h2, .inl (y2, 2501, .inl (fun _ => 0))), (h3, .inl (y3, 2501, .inl (fun _ => 0))), (h4, .inl (y4, 2501, .inr (.inl (fun _ => 0))))])) (va_Qv (fun (u : (Nat → Int32) × (Nat → Int32) × (Nat → Int32) × (Nat → Int64)) => (∀ j, iv (u.1 j) 0 0) ∧ u.1 0 = 0 ∧ (∀ j, iv (u.2.1 j) 0 0) ∧ u.2.1 0 = 0 ∧ (∀ j, iv (u.2.2.1 j) 0 0) ∧ u.2.2.1 0 = 0 ∧ u.2.2.2 0 = 0 ∧ True) (fun (u : (Nat → Int32) × (Nat → Int32) × (Nat → Int32) × (Nat → Int64)) (t : State) => va_P (dC, dI) vwCl [(h0, .inr (10, [.ref h1, .ref h2, .ref h3, .ref h4, .ref h5, .ref h6, .int 0, .int 1, .int 0, .int 0, .int 0, .long 0])), (h6, .inl (y0, 2600, .inl (fun _ => 0))), (h1, .inl (y1, 2501, .inl u.1)), (h2, .inl (y2, 2501, .inl u.2.1)), (h3, .inl (y3, 2501, .inl u.2.2.1)), (h4, .inl (y4, 2501, .inr (.inl u.2.2.2)))] t.heap ∧ va_K (dC, dI) vwCl [(y0, .int), (y1, .int), (y2, .int), (y3, .int), (y4, .long)] t ∧ va_D (va_A [(h0, .inr (10, [.ref h1, .ref h2, .ref h3, .ref h4, .ref h5, .ref h6, .int 0, .int 0, .int 0, .int 0, .int 0, .long 0])), (h6, .inl (y0, 2600, .inl (fun _ => 0))), (h1, .inl (y1, 2501, .inl (fun _ => 0))), (h2, .inl (y2, 2501, .inl (fun _ => 0))), (h3, .inl (y3, 2501, .inl (fun _ => 0))), (h4, .inl (y4, 2501, .inr (.inl (fun _ => 0))))] sz) [(h0, .inr (10, [.ref h1, .ref h2, .ref h3, .ref h4, .ref h5, .ref h6, .int 0, .int 1, .int 0, .int 0, .int 0, .long 0])), (h6, .inl (y0, 2600, .inl (fun _ => 0))), (h1, .inl (y1, 2501, .inl u.1)), (h2, .inl (y2, 2501, .inl u.2.1)), (h3, .inl (y3, 2501, .inl u.2.2.1)), (h4, .inl (y4, 2501, .inr (.inl u.2.2.2)))]) (va_A [(h0, .inr (10, [.ref h1, .ref h2, .ref h3, .ref h4, .ref h5, .ref h6, .int 0, .int 0, .int 0, .int 0, .int 0, .long 0])), (h6, .inl (y0, 2600, .inl (fun _ => 0))), (h1, .inl (y1, 2501, .inl (fun _ => 0))), (h2, .inl (y2, 2501, .inl (fun _ => 0))), (h3, .inl (y3, 2501, .inl (fun _ => 0))), (h4, .inl (y4, 2501, .inr (.inl (fun _ => 0))))] sz)) 0 0 (va_A [(h0, .inr (10, [.ref h1, .ref h2, .ref h3, .ref h4, .ref h5, .ref h6, .int 0, .int 0, .int 0, .int 0, .int 0, .long 0])), (h6, .inl (y0, 2600, .inl (fun _ => 0))), (h1, .inl (y1, 2501, .inl (fun _ => 0))), (h2, .inl (y2, 2501, .inl (fun _ => 0))), (h3, .inl (y3, 2501, .inl (fun _ => 0))), (h4, .inl (y4, 2501, .inr (.inl (fun _ => 0))))] sz) := by
  refine Met.ofW (cc := cX10_scan) (maxL := 6) (ret := none) (by decide) rfl ?_
  intro p e s m args below meth c s₁ B hml hv
  obtain ⟨rfl, hsz, hP, hK, hD0⟩ := hv
  have hx := B.exec
  have hb := B.bytes
  have hr := B.returns
  have hts0 := atoms_spec (ws := Cond.code yX10_scan cX10_scan 6 none :: lw_G) B.pre
  have hG : ∀ w ∈ lw_G, w.before _ s = true := fun w h => hts0 w (List.mem_cons_of_mem _ h)
  have hown : s.vm.findClass RX10 = some m.cls := findClass_of_methodNamed B.named
  have hlocks := B.notSynchronized
  subst hsz
  have hD := hD0.self (sz := s.heap.size)
  generalize hAe : va_A [(h0, .inr (10, [.ref h1, .ref h2, .ref h3, .ref h4, .ref h5, .ref h6, .int 0, .int 0, .int 0, .int 0, .int 0, .long 0])), (h6, .inl (y0, 2600, .inl (fun _ => 0))), (h1, .inl (y1, 2501, .inl (fun _ => 0))), (h2, .inl (y2, 2501, .inl (fun _ => 0))), (h3, .inl (y3, 2501, .inl (fun _ => 0))), (h4, .inl (y4, 2501, .inr (.inl (fun _ => 0))))] s.heap.size = A at hD ⊢
  have hA : ∀ q : Nat, s.heap.size ≤ q → A q := fun q h => by rw [← hAe]; exact Or.inr h
  have hS : va_S A s.heap s.heap [] := va_S.rf
  have hP : va_P (dC, dI) vwCl [(h0, .inr (10, [.ref h1, .ref h2, .ref h3, .ref h4, .ref h5, .ref h6, .int 0, .int 0, .int 0, .int 0, .int 0, .long 0])), (h6, .inl (y0, 2600, .inl (fun _ => 0))), (h1, .inl (y1, 2501, .inl (fun _ => 0))), (h2, .inl (y2, 2501, .inl (fun _ => 0))), (h3, .inl (y3, 2501, .inl (fun _ => 0))), (h4, .inl (y4, 2501, .inr (.inl (fun _ => 0))))] s.heap := hP
  have hl := lv_entry ([.ref h0, .int 0]) (n := 6) (Nat.le_of_ble_eq_true rfl)
  rw [lg_entry_eq]
  generalize (lg_sl ([.ref h0, .int 0]) ++ List.replicate (6 - (lg_sl ([.ref h0, .int 0])).length) Slot.unset).toArray = ls at hl ⊢
  have hl : lv_has ls 6 [(0, .ref h0), (1, .int 0)] := hl
  refine lv_aload_n hx hb dX10_scan_0 rfl (lv_at hl 0 rfl) ?_
  refine lv_iload_n hx hb dX10_scan_1 rfl (lv_at hl 1 rfl) ?_
  refine lv_aload_n hx hb dX10_scan_2 rfl (lv_at hl 0 rfl) ?_
  refine va_get (D := (dC, dI)) (ci := 10) (v := .ref h6) (C := RX10) (T := TX10) (N := 12) hx hb hG inGX10 hown hK hP 0 rfl rfl 5 (by decide) (hG _ wd_288) (fun _ h9 => h9) rfl dX10_scan_3 ?_
  refine va_alen (v := 2600) hx hb hK hP 1 0 rfl rfl (by decide) dX10_scan_6 ?_
  refine lv_icmp_gt (tgt := 14) hx hb dX10_scan_7 (by decide) (fun c => absurd c (by decide)) (fun _ => ?_)
  refine lv_iload_n hx hb dX10_scan_10 rfl (lv_at hl 1 rfl) ?_
  refine lv_goto (tgt := 19) hx hb dX10_scan_11 (by decide) ?_
  refine va_put (D := (dC, dI)) (ci := 10) (v := .int 0) (ty := .int) (C := RX10) (T := TX10) (N := 12) hx hb hG inGX10 tyX10 tyX10_ok nmX10 hown hK hP hD hS 0 rfl rfl 6 (by decide) (hG _ wd_289) (fun _ h9 => h9) rfl (by decide +kernel) rfl rfl (Nat.le_of_ble_eq_true rfl) dX10_scan_19 (fun H locs hP hD hS => ?_)
  have hP : va_P (dC, dI) vwCl [(h0, .inr (10, [.ref h1, .ref h2, .ref h3, .ref h4, .ref h5, .ref h6, .int 0, .int 0, .int 0, .int 0, .int 0, .long 0])), (h6, .inl (y0, 2600, .inl (fun _ => 0))), (h1, .inl (y1, 2501, .inl (fun _ => 0))), (h2, .inl (y2, 2501, .inl (fun _ => 0))), (h3, .inl (y3, 2501, .inl (fun _ => 0))), (h4, .inl (y4, 2501, .inr (.inl (fun _ => 0))))] H := hP
  have hD : va_D A [(h0, .inr (10, [.ref h1, .ref h2, .ref h3, .ref h4, .ref h5, .ref h6, .int 0, .int 0, .int 0, .int 0, .int 0, .long 0])), (h6, .inl (y0, 2600, .inl (fun _ => 0))), (h1, .inl (y1, 2501, .inl (fun _ => 0))), (h2, .inl (y2, 2501, .inl (fun _ => 0))), (h3, .inl (y3, 2501, .inl (fun _ => 0))), (h4, .inl (y4, 2501, .inr (.inl (fun _ => 0))))] := hD
  refine lv_aload_n hx hb dX10_scan_22 rfl (lv_at hl 0 rfl) ?_
  refine lv_iconst (v := 0) hx hb dX10_scan_23 (by decide) ?_
  refine va_put (D := (dC, dI)) (ci := 10) (v := .int 0) (ty := .int) (C := RX10) (T := TX10) (N := 12) hx hb hG inGX10 tyX10 tyX10_ok nmX10 hown hK hP hD hS 0 rfl rfl 8 (by decide) (hG _ wd_291) (fun _ h9 => h9) rfl (by decide +kernel) rfl rfl (Nat.le_of_ble_eq_true rfl) dX10_scan_24 (fun H locs hP hD hS => ?_)
  have hP : va_P (dC, dI) vwCl [(h0, .inr (10, [.ref h1, .ref h2, .ref h3, .ref h4, .ref h5, .ref h6, .int 0, .int 0, .int 0, .int 0, .int 0, .long 0])), (h6, .inl (y0, 2600, .inl (fun _ => 0))), (h1, .inl (y1, 2501, .inl (fun _ => 0))), (h2, .inl (y2, 2501, .inl (fun _ => 0))), (h3, .inl (y3, 2501, .inl (fun _ => 0))), (h4, .inl (y4, 2501, .inr (.inl (fun _ => 0))))] H := hP
  have hD : va_D A [(h0, .inr (10, [.ref h1, .ref h2, .ref h3, .ref h4, .ref h5, .ref h6, .int 0, .int 0, .int 0, .int 0, .int 0, .long 0])), (h6, .inl (y0, 2600, .inl (fun _ => 0))), (h1, .inl (y1, 2501, .inl (fun _ => 0))), (h2, .inl (y2, 2501, .inl (fun _ => 0))), (h3, .inl (y3, 2501, .inl (fun _ => 0))), (h4, .inl (y4, 2501, .inr (.inl (fun _ => 0))))] := hD
  refine lv_iconst (v := 0) hx hb dX10_scan_27 (by decide) ?_
  refine lv_istore_n (lv' := [(2, .int 0), (0, .ref h0), (1, .int 0)]) hx hb dX10_scan_28 rfl hl (by decide) rfl (fun ls hl => ?_)
  refine lv_iconst (v := 1) hx hb dX10_scan_29 (by decide) ?_
  refine lv_istore_n (lv' := [(3, .int 1), (2, .int 0), (0, .ref h0), (1, .int 0)]) hx hb dX10_scan_30 rfl hl (by decide) rfl (fun ls hl => ?_)
  refine lv_aload_n hx hb dX10_scan_31 rfl (lv_at hl 2 rfl) ?_
  refine lv_iconst (v := 0) hx hb dX10_scan_32 (by decide) ?_
  refine va_put (D := (dC, dI)) (ci := 10) (v := .int 0) (ty := .int) (C := RX10) (T := TX10) (N := 12) hx hb hG inGX10 tyX10 tyX10_ok nmX10 hown hK hP hD hS 0 rfl rfl 7 (by decide) (hG _ wd_290) (fun _ h9 => h9) rfl (by decide +kernel) rfl rfl (Nat.le_of_ble_eq_true rfl) dX10_scan_33 (fun H locs hP hD hS => ?_)
  have hP : va_P (dC, dI) vwCl [(h0, .inr (10, [.ref h1, .ref h2, .ref h3, .ref h4, .ref h5, .ref h6, .int 0, .int 0, .int 0, .int 0, .int 0, .long 0])), (h6, .inl (y0, 2600, .inl (fun _ => 0))), (h1, .inl (y1, 2501, .inl (fun _ => 0))), (h2, .inl (y2, 2501, .inl (fun _ => 0))), (h3, .inl (y3, 2501, .inl (fun _ => 0))), (h4, .inl (y4, 2501, .inr (.inl (fun _ => 0))))] H := hP
  have hD : va_D A [(h0, .inr (10, [.ref h1, .ref h2, .ref h3, .ref h4, .ref h5, .ref h6, .int 0, .int 0, .int 0, .int 0, .int 0, .long 0])), (h6, .inl (y0, 2600, .inl (fun _ => 0))), (h1, .inl (y1, 2501, .inl (fun _ => 0))), (h2, .inl (y2, 2501, .inl (fun _ => 0))), (h3, .inl (y3, 2501, .inl (fun _ => 0))), (h4, .inl (y4, 2501, .inr (.inl (fun _ => 0))))] := hD
  refine lv_iconst (v := 0) hx hb dX10_scan_36 (by decide) ?_
  refine lv_istore (lv' := [(4, .int 0), (3, .int 1), (2, .int 0), (0, .ref h0), (1, .int 0)]) hx hb dX10_scan_37 hl (by decide) rfl (fun ls hl => ?_)
  refine lv_iload_n hx hb dX10_scan_39 rfl (lv_at hl 1 rfl) ?_
  refine lv_if_eq (tgt := 155) hx hb dX10_scan_40 (by decide) (fun c => absurd c (by decide)) (fun _ => ?_)
  refine lv_iload hx hb dX10_scan_43 (lv_at hl 0 rfl) ?_
  refine lv_sipush (v := 2501) hx hb dX10_scan_45 (by decide) ?_
  refine lv_icmp_ge (tgt := 155) hx hb dX10_scan_48 (by decide) (fun c => absurd c (by decide)) (fun _ => ?_)
  refine lv_aload_n hx hb dX10_scan_51 rfl (lv_at hl 3 rfl) ?_
  refine lv_iload_n hx hb dX10_scan_52 rfl (lv_at hl 2 rfl) ?_
  have hPc := hP.sub (ws' := [(h0, .inr (10, [.ref h1, .ref h2, .ref h3, .ref h4, .ref h5, .ref h6, .int 0, .int 0, .int 0, .int 0, .int 0, .long 0]))]) [0] rfl
  have hDc := hD.sub (ws' := [(h0, .inr (10, [.ref h1, .ref h2, .ref h3, .ref h4, .ref h5, .ref h6, .int 0, .int 0, .int 0, .int 0, .int 0, .long 0]))]) [0] (by decide) rfl
  have hKc := hK.sub (tys' := []) [] rfl
  have hFc := va_free (wc := [(h0, .inr (10, [.ref h1, .ref h2, .ref h3, .ref h4, .ref h5, .ref h6, .int 0, .int 0, .int 0, .int 0, .int 0, .long 0]))]) hD hS hA [0] rfl
  refine va_calli (va_runV (As := [.int 0]) (rest := []) ⟨hx, hb, hml, hown, hG⟩ (cX10_passBlanks_1 l dC dI h0 h1 h2 h3 h4 h5 h6 H.size) (cwV 1 hG (gV wd_445 wd_447 wp_2 wd_11 wd_448) rfl rfl rfl (by decide +kernel) ⟨Nat.le_of_ble_eq_true rfl, Nat.le_of_ble_eq_true rfl⟩) ⟨fun a U g mk q => by obtain ⟨q0, q1, qP, qK, qD⟩ := q; exact ⟨q0, q1, qP, va_K.moved (u := U) (U := U.calling g mk a) (Vm.Alike.refl U.vm) qK, qD⟩, va_recv hKc hPc (ci := 10) (q0 := 0) rfl rfl, fun U hU hW => ⟨rfl, by rw [hU], by rw [hU]; exact hPc, va_K.moved hW.alike hKc, hDc.weaken (fun _ _ _ _ => trivial)⟩⟩ rfl rfl hl.1 rfl (lv_room (Nat.le_of_ble_eq_true rfl)) dX10_scan_53 ⟨by decide, by decide⟩) hS (fun q _ h => hFc q h) hFc (fun r1 u2 t H1 locs ht hvm hw hB hz1 hk1 hS => ?_)
  have hw : r1 = 0 ∧ True := hw
  obtain ⟨er1, -⟩ := hw
  obtain ⟨hP1, hK1, hD1⟩ := hB
  rw [ht] at hP1
  have hK1 := va_K.moved hvm.symm hK1
  obtain ⟨hP, hD⟩ := va_join (wr := [(h6, .inl (y0, 2600, .inl (fun _ => 0))), (h1, .inl (y1, 2501, .inl (fun _ => 0))), (h2, .inl (y2, 2501, .inl (fun _ => 0))), (h3, .inl (y3, 2501, .inl (fun _ => 0))), (h4, .inl (y4, 2501, .inr (.inl (fun _ => 0))))]) (w1 := [(h0, .inr (10, [.ref h1, .ref h2, .ref h3, .ref h4, .ref h5, .ref h6, .int 0, .int 0, .int 0, .int 0, .int 0, .long 0]))]) hP hD [0] [1, 2, 3, 4, 5] rfl rfl (by decide) (by decide) hk1 hFc hP1 hD1
  have hK := (hK.sub (tys' := [(y0, .int), (y1, .int), (y2, .int), (y3, .int), (y4, .long)]) [0, 1, 2, 3, 4] rfl).app hK1
  generalize H1 = H at hP hS ⊢
  have hP : va_P (dC, dI) vwCl [(h6, .inl (y0, 2600, .inl (fun _ => 0))), (h1, .inl (y1, 2501, .inl (fun _ => 0))), (h2, .inl (y2, 2501, .inl (fun _ => 0))), (h3, .inl (y3, 2501, .inl (fun _ => 0))), (h4, .inl (y4, 2501, .inr (.inl (fun _ => 0)))), (h0, .inr (10, [.ref h1, .ref h2, .ref h3, .ref h4, .ref h5, .ref h6, .int 0, .int 0, .int 0, .int 0, .int 0, .long 0]))] H := hP
  have hD : va_D A [(h6, .inl (y0, 2600, .inl (fun _ => 0))), (h1, .inl (y1, 2501, .inl (fun _ => 0))), (h2, .inl (y2, 2501, .inl (fun _ => 0))), (h3, .inl (y3, 2501, .inl (fun _ => 0))), (h4, .inl (y4, 2501, .inr (.inl (fun _ => 0)))), (h0, .inr (10, [.ref h1, .ref h2, .ref h3, .ref h4, .ref h5, .ref h6, .int 0, .int 0, .int 0, .int 0, .int 0, .long 0]))] := hD
  have hK : va_K (dC, dI) vwCl [(y0, .int), (y1, .int), (y2, .int), (y3, .int), (y4, .long)] s := hK
  subst er1
  refine lv_istore (lv' := [(5, .int 0), (4, .int 0), (3, .int 1), (2, .int 0), (0, .ref h0), (1, .int 0)]) hx hb dX10_scan_56 hl (by decide) rfl (fun ls hl => ?_)
  refine lv_aload_n hx hb dX10_scan_58 rfl (lv_at hl 4 rfl) ?_
  refine lv_iload hx hb dX10_scan_59 (lv_at hl 0 rfl) ?_
  refine lv_iload hx hb dX10_scan_61 (lv_at hl 0 rfl) ?_
  refine lv_iload_n hx hb dX10_scan_63 rfl (lv_at hl 3 rfl) ?_
  refine lv_icmp_ne (tgt := 71) hx hb dX10_scan_64 (by decide) (fun c => absurd (by decide) c) (fun _ => ?_)
  refine lv_iconst (v := 1) hx hb dX10_scan_67 (by decide) ?_
  refine lv_goto (tgt := 72) hx hb dX10_scan_68 (by decide) ?_
  have hPc := hP.sub (ws' := [(h0, .inr (10, [.ref h1, .ref h2, .ref h3, .ref h4, .ref h5, .ref h6, .int 0, .int 0, .int 0, .int 0, .int 0, .long 0]))]) [5] rfl
  have hDc := hD.sub (ws' := [(h0, .inr (10, [.ref h1, .ref h2, .ref h3, .ref h4, .ref h5, .ref h6, .int 0, .int 0, .int 0, .int 0, .int 0, .long 0]))]) [5] (by decide) rfl
  have hKc := hK.sub (tys' := []) [] rfl
  have hFc := va_free (wc := [(h0, .inr (10, [.ref h1, .ref h2, .ref h3, .ref h4, .ref h5, .ref h6, .int 0, .int 0, .int 0, .int 0, .int 0, .long 0]))]) hD hS hA [5] rfl
  refine va_calli (va_runV (As := [.int 0, .int 1]) (rest := []) ⟨hx, hb, hml, hown, hG⟩ (cX10_scanOne_1 l dC dI h0 h1 h2 h3 h4 h5 h6 H.size) (cwV 2 hG (gV wd_453 wd_455 wp_4 wd_11 wd_456) rfl rfl rfl (by decide +kernel) ⟨Nat.le_of_ble_eq_true rfl, Nat.le_of_ble_eq_true rfl⟩) ⟨fun a U g mk q => by obtain ⟨q0, q1, qP, qK, qD⟩ := q; exact ⟨q0, q1, qP, va_K.moved (u := U) (U := U.calling g mk a) (Vm.Alike.refl U.vm) qK, qD⟩, va_recv hKc hPc (ci := 10) (q0 := 0) rfl rfl, fun U hU hW => ⟨rfl, by rw [hU], by rw [hU]; exact hPc, va_K.moved hW.alike hKc, hDc.weaken (fun _ _ _ _ => trivial)⟩⟩ rfl rfl hl.1 rfl (lv_room (Nat.le_of_ble_eq_true rfl)) dX10_scan_72 ⟨by decide, by decide⟩) hS (fun q _ h => hFc q h) hFc (fun r3 u4 t H1 locs ht hvm hw hB hz1 hk1 hS => ?_)
  have hw : r3 = 1 ∧ True := hw
  obtain ⟨er3, -⟩ := hw
  obtain ⟨hP1, hK1, hD1⟩ := hB
  rw [ht] at hP1
  have hK1 := va_K.moved hvm.symm hK1
  obtain ⟨hP, hD⟩ := va_join (wr := [(h6, .inl (y0, 2600, .inl (fun _ => 0))), (h1, .inl (y1, 2501, .inl (fun _ => 0))), (h2, .inl (y2, 2501, .inl (fun _ => 0))), (h3, .inl (y3, 2501, .inl (fun _ => 0))), (h4, .inl (y4, 2501, .inr (.inl (fun _ => 0))))]) (w1 := [(h0, .inr (10, [.ref h1, .ref h2, .ref h3, .ref h4, .ref h5, .ref h6, .int 0, .int 0, .int 0, .int 0, .int 0, .long 0]))]) hP hD [5] [0, 1, 2, 3, 4] rfl rfl (by decide) (by decide) hk1 hFc hP1 hD1
  have hK := (hK.sub (tys' := [(y0, .int), (y1, .int), (y2, .int), (y3, .int), (y4, .long)]) [0, 1, 2, 3, 4] rfl).app hK1
  generalize H1 = H at hP hS ⊢
  have hP : va_P (dC, dI) vwCl [(h6, .inl (y0, 2600, .inl (fun _ => 0))), (h1, .inl (y1, 2501, .inl (fun _ => 0))), (h2, .inl (y2, 2501, .inl (fun _ => 0))), (h3, .inl (y3, 2501, .inl (fun _ => 0))), (h4, .inl (y4, 2501, .inr (.inl (fun _ => 0)))), (h0, .inr (10, [.ref h1, .ref h2, .ref h3, .ref h4, .ref h5, .ref h6, .int 0, .int 0, .int 0, .int 0, .int 0, .long 0]))] H := hP
  have hD : va_D A [(h6, .inl (y0, 2600, .inl (fun _ => 0))), (h1, .inl (y1, 2501, .inl (fun _ => 0))), (h2, .inl (y2, 2501, .inl (fun _ => 0))), (h3, .inl (y3, 2501, .inl (fun _ => 0))), (h4, .inl (y4, 2501, .inr (.inl (fun _ => 0)))), (h0, .inr (10, [.ref h1, .ref h2, .ref h3, .ref h4, .ref h5, .ref h6, .int 0, .int 0, .int 0, .int 0, .int 0, .long 0]))] := hD
  have hK : va_K (dC, dI) vwCl [(y0, .int), (y1, .int), (y2, .int), (y3, .int), (y4, .long)] s := hK
  subst er3
  refine lv_istore_n (lv' := [(2, .int 1), (5, .int 0), (4, .int 0), (3, .int 1), (0, .ref h0), (1, .int 0)]) hx hb dX10_scan_75 rfl hl (by decide) rfl (fun ls hl => ?_)
  refine lv_aload_n hx hb dX10_scan_76 rfl (lv_at hl 4 rfl) ?_
  refine va_get (D := (dC, dI)) (ci := 10) (v := .ref h1) (C := RX10) (T := TX10) (N := 12) hx hb hG inGX10 hown hK hP 5 rfl rfl 0 (by decide) (hG _ wd_283) (fun _ h9 => h9) rfl dX10_scan_77 ?_
  refine lv_iload hx hb dX10_scan_80 (lv_at hl 2 rfl) ?_
  refine lv_aload_n hx hb dX10_scan_82 rfl (lv_at hl 4 rfl) ?_
  refine va_get (D := (dC, dI)) (ci := 10) (v := .int 0) (C := RX10) (T := TX10) (N := 12) hx hb hG inGX10 hown hK hP 5 rfl rfl 9 (by decide) (hG _ wd_292) (fun _ h9 => h9) rfl dX10_scan_83 ?_
  refine va_iast hx hb hK hP hD hS 1 1 rfl rfl (iv_in (by decide : iv 0 0 0) (by decide) (by decide) : vp_in 0 2501) dX10_scan_86 (fun H locs hP hD hS => ?_)
  have hP : va_P (dC, dI) vwCl [(h6, .inl (y0, 2600, .inl (fun _ => 0))), (h1, .inl (y1, 2501, .inl (upd (fun _ => 0) (0 : Int32).toNatClampNeg 0))), (h2, .inl (y2, 2501, .inl (fun _ => 0))), (h3, .inl (y3, 2501, .inl (fun _ => 0))), (h4, .inl (y4, 2501, .inr (.inl (fun _ => 0)))), (h0, .inr (10, [.ref h1, .ref h2, .ref h3, .ref h4, .ref h5, .ref h6, .int 0, .int 0, .int 0, .int 0, .int 0, .long 0]))] H := hP
  have hD : va_D A [(h6, .inl (y0, 2600, .inl (fun _ => 0))), (h1, .inl (y1, 2501, .inl (upd (fun _ => 0) (0 : Int32).toNatClampNeg 0))), (h2, .inl (y2, 2501, .inl (fun _ => 0))), (h3, .inl (y3, 2501, .inl (fun _ => 0))), (h4, .inl (y4, 2501, .inr (.inl (fun _ => 0)))), (h0, .inr (10, [.ref h1, .ref h2, .ref h3, .ref h4, .ref h5, .ref h6, .int 0, .int 0, .int 0, .int 0, .int 0, .long 0]))] := hD
  obtain ⟨f5, ef5⟩ : ∃ z, z = upd (fun _ => 0) (0 : Int32).toNatClampNeg 0 := ⟨_, rfl⟩
  rw [← ef5] at hP hD
  have if5 : ∀ j, iv (f5 j) 0 0 := by rw [ef5]; exact iv_upd (fun _ => (by decide : iv 0 0 0)) (by decide : iv 0 0 0) (by decide) (by decide) (by decide) (by decide)
  refine lv_aload_n hx hb dX10_scan_87 rfl (lv_at hl 4 rfl) ?_
  refine va_get (D := (dC, dI)) (ci := 10) (v := .ref h2) (C := RX10) (T := TX10) (N := 12) hx hb hG inGX10 hown hK hP 5 rfl rfl 1 (by decide) (hG _ wd_284) (fun _ h9 => h9) rfl dX10_scan_88 ?_
  refine lv_iload hx hb dX10_scan_91 (lv_at hl 2 rfl) ?_
  refine lv_iload hx hb dX10_scan_93 (lv_at hl 1 rfl) ?_
  refine va_iast hx hb hK hP hD hS 2 2 rfl rfl (iv_in (by decide : iv 0 0 0) (by decide) (by decide) : vp_in 0 2501) dX10_scan_95 (fun H locs hP hD hS => ?_)
  have hP : va_P (dC, dI) vwCl [(h6, .inl (y0, 2600, .inl (fun _ => 0))), (h1, .inl (y1, 2501, .inl f5)), (h2, .inl (y2, 2501, .inl (upd (fun _ => 0) (0 : Int32).toNatClampNeg 0))), (h3, .inl (y3, 2501, .inl (fun _ => 0))), (h4, .inl (y4, 2501, .inr (.inl (fun _ => 0)))), (h0, .inr (10, [.ref h1, .ref h2, .ref h3, .ref h4, .ref h5, .ref h6, .int 0, .int 0, .int 0, .int 0, .int 0, .long 0]))] H := hP
  have hD : va_D A [(h6, .inl (y0, 2600, .inl (fun _ => 0))), (h1, .inl (y1, 2501, .inl f5)), (h2, .inl (y2, 2501, .inl (upd (fun _ => 0) (0 : Int32).toNatClampNeg 0))), (h3, .inl (y3, 2501, .inl (fun _ => 0))), (h4, .inl (y4, 2501, .inr (.inl (fun _ => 0)))), (h0, .inr (10, [.ref h1, .ref h2, .ref h3, .ref h4, .ref h5, .ref h6, .int 0, .int 0, .int 0, .int 0, .int 0, .long 0]))] := hD
  obtain ⟨f6, ef6⟩ : ∃ z, z = upd (fun _ => 0) (0 : Int32).toNatClampNeg 0 := ⟨_, rfl⟩
  rw [← ef6] at hP hD
  have if6 : ∀ j, iv (f6 j) 0 0 := by rw [ef6]; exact iv_upd (fun _ => (by decide : iv 0 0 0)) (by decide : iv 0 0 0) (by decide) (by decide) (by decide) (by decide)
  refine lv_aload_n hx hb dX10_scan_96 rfl (lv_at hl 4 rfl) ?_
  refine va_get (D := (dC, dI)) (ci := 10) (v := .ref h3) (C := RX10) (T := TX10) (N := 12) hx hb hG inGX10 hown hK hP 5 rfl rfl 2 (by decide) (hG _ wd_285) (fun _ h9 => h9) rfl dX10_scan_97 ?_
  refine lv_iload hx hb dX10_scan_100 (lv_at hl 2 rfl) ?_
  refine lv_aload_n hx hb dX10_scan_102 rfl (lv_at hl 4 rfl) ?_
  refine va_get (D := (dC, dI)) (ci := 10) (v := .int 0) (C := RX10) (T := TX10) (N := 12) hx hb hG inGX10 hown hK hP 5 rfl rfl 10 (by decide) (hG _ wd_293) (fun _ h9 => h9) rfl dX10_scan_103 ?_
  refine va_iast hx hb hK hP hD hS 3 3 rfl rfl (iv_in (by decide : iv 0 0 0) (by decide) (by decide) : vp_in 0 2501) dX10_scan_106 (fun H locs hP hD hS => ?_)
  have hP : va_P (dC, dI) vwCl [(h6, .inl (y0, 2600, .inl (fun _ => 0))), (h1, .inl (y1, 2501, .inl f5)), (h2, .inl (y2, 2501, .inl f6)), (h3, .inl (y3, 2501, .inl (upd (fun _ => 0) (0 : Int32).toNatClampNeg 0))), (h4, .inl (y4, 2501, .inr (.inl (fun _ => 0)))), (h0, .inr (10, [.ref h1, .ref h2, .ref h3, .ref h4, .ref h5, .ref h6, .int 0, .int 0, .int 0, .int 0, .int 0, .long 0]))] H := hP
  have hD : va_D A [(h6, .inl (y0, 2600, .inl (fun _ => 0))), (h1, .inl (y1, 2501, .inl f5)), (h2, .inl (y2, 2501, .inl f6)), (h3, .inl (y3, 2501, .inl (upd (fun _ => 0) (0 : Int32).toNatClampNeg 0))), (h4, .inl (y4, 2501, .inr (.inl (fun _ => 0)))), (h0, .inr (10, [.ref h1, .ref h2, .ref h3, .ref h4, .ref h5, .ref h6, .int 0, .int 0, .int 0, .int 0, .int 0, .long 0]))] := hD
  obtain ⟨f7, ef7⟩ : ∃ z, z = upd (fun _ => 0) (0 : Int32).toNatClampNeg 0 := ⟨_, rfl⟩
  rw [← ef7] at hP hD
  have if7 : ∀ j, iv (f7 j) 0 0 := by rw [ef7]; exact iv_upd (fun _ => (by decide : iv 0 0 0)) (by decide : iv 0 0 0) (by decide) (by decide) (by decide) (by decide)
  refine lv_aload_n hx hb dX10_scan_107 rfl (lv_at hl 4 rfl) ?_
  refine va_get (D := (dC, dI)) (ci := 10) (v := .ref h4) (C := RX10) (T := TX10) (N := 12) hx hb hG inGX10 hown hK hP 5 rfl rfl 3 (by decide) (hG _ wd_286) (fun _ h9 => h9) rfl dX10_scan_108 ?_
  refine lv_iload hx hb dX10_scan_111 (lv_at hl 2 rfl) ?_
  refine lv_aload_n hx hb dX10_scan_113 rfl (lv_at hl 4 rfl) ?_
  refine va_get (D := (dC, dI)) (ci := 10) (v := .long 0) (C := RX10) (T := TX10) (N := 12) hx hb hG inGX10 hown hK hP 5 rfl rfl 11 (by decide) (hG _ wd_294) (fun _ h9 => h9) rfl dX10_scan_114 ?_
  refine va_last hx hb hK hP hD hS 4 4 rfl rfl (iv_in (by decide : iv 0 0 0) (by decide) (by decide) : vp_in 0 2501) dX10_scan_117 (fun H locs hP hD hS => ?_)
  have hP : va_P (dC, dI) vwCl [(h6, .inl (y0, 2600, .inl (fun _ => 0))), (h1, .inl (y1, 2501, .inl f5)), (h2, .inl (y2, 2501, .inl f6)), (h3, .inl (y3, 2501, .inl f7)), (h4, .inl (y4, 2501, .inr (.inl (vp_updL (fun _ => 0) (0 : Int32).toNatClampNeg 0)))), (h0, .inr (10, [.ref h1, .ref h2, .ref h3, .ref h4, .ref h5, .ref h6, .int 0, .int 0, .int 0, .int 0, .int 0, .long 0]))] H := hP
  have hD : va_D A [(h6, .inl (y0, 2600, .inl (fun _ => 0))), (h1, .inl (y1, 2501, .inl f5)), (h2, .inl (y2, 2501, .inl f6)), (h3, .inl (y3, 2501, .inl f7)), (h4, .inl (y4, 2501, .inr (.inl (vp_updL (fun _ => 0) (0 : Int32).toNatClampNeg 0)))), (h0, .inr (10, [.ref h1, .ref h2, .ref h3, .ref h4, .ref h5, .ref h6, .int 0, .int 0, .int 0, .int 0, .int 0, .long 0]))] := hD
  obtain ⟨f8, ef8⟩ : ∃ z, z = vp_updL (fun _ => 0) (0 : Int32).toNatClampNeg 0 := ⟨_, rfl⟩
  rw [← ef8] at hP hD
  refine lv_aload_n hx hb dX10_scan_118 rfl (lv_at hl 4 rfl) ?_
  refine va_get (D := (dC, dI)) (ci := 10) (v := .int 0) (C := RX10) (T := TX10) (N := 12) hx hb hG inGX10 hown hK hP 5 rfl rfl 9 (by decide) (hG _ wd_292) (fun _ h9 => h9) rfl dX10_scan_119 ?_
  refine lv_iconst (v := 1) hx hb dX10_scan_122 (by decide) ?_
  refine lv_icmp_eq (tgt := 139) hx hb dX10_scan_123 (by decide) (fun c => absurd c (by decide)) (fun _ => ?_)
  refine lv_iload hx hb dX10_scan_126 (lv_at hl 1 rfl) ?_
  refine lv_aload_n hx hb dX10_scan_128 rfl (lv_at hl 4 rfl) ?_
  refine va_get (D := (dC, dI)) (ci := 10) (v := .int 0) (C := RX10) (T := TX10) (N := 12) hx hb hG inGX10 hown hK hP 5 rfl rfl 6 (by decide) (hG _ wd_289) (fun _ h9 => h9) rfl dX10_scan_129 ?_
  refine lv_icmp_ge (tgt := 139) hx hb dX10_scan_132 (by decide) (fun _ => ?_) (fun c => absurd (by decide) c)
  refine lv_iconst (v := 0) hx hb dX10_scan_139 (by decide) ?_
  refine lv_istore_n (lv' := [(3, .int 0), (2, .int 1), (5, .int 0), (4, .int 0), (0, .ref h0), (1, .int 0)]) hx hb dX10_scan_140 rfl hl (by decide) rfl (fun ls hl => ?_)
  refine lv_aload_n hx hb dX10_scan_141 rfl (lv_at hl 4 rfl) ?_
  refine lv_iload hx hb dX10_scan_142 (lv_at hl 3 rfl) ?_
  refine lv_iconst (v := 1) hx hb dX10_scan_144 (by decide) ?_
  refine lv_iadd hx hb dX10_scan_145 ?_
  refine lv_val (y := 1) (by decide +kernel) ?_
  refine va_put (D := (dC, dI)) (ci := 10) (v := .int 1) (ty := .int) (C := RX10) (T := TX10) (N := 12) hx hb hG inGX10 tyX10 tyX10_ok nmX10 hown hK hP hD hS 5 rfl rfl 7 (by decide) (hG _ wd_290) (fun _ h9 => h9) rfl (by decide +kernel) rfl rfl (Nat.le_of_ble_eq_true rfl) dX10_scan_146 (fun H locs hP hD hS => ?_)
  have hP : va_P (dC, dI) vwCl [(h6, .inl (y0, 2600, .inl (fun _ => 0))), (h1, .inl (y1, 2501, .inl f5)), (h2, .inl (y2, 2501, .inl f6)), (h3, .inl (y3, 2501, .inl f7)), (h4, .inl (y4, 2501, .inr (.inl f8))), (h0, .inr (10, [.ref h1, .ref h2, .ref h3, .ref h4, .ref h5, .ref h6, .int 0, .int 1, .int 0, .int 0, .int 0, .long 0]))] H := hP
  have hD : va_D A [(h6, .inl (y0, 2600, .inl (fun _ => 0))), (h1, .inl (y1, 2501, .inl f5)), (h2, .inl (y2, 2501, .inl f6)), (h3, .inl (y3, 2501, .inl f7)), (h4, .inl (y4, 2501, .inr (.inl f8))), (h0, .inr (10, [.ref h1, .ref h2, .ref h3, .ref h4, .ref h5, .ref h6, .int 0, .int 1, .int 0, .int 0, .int 0, .long 0]))] := hD
  refine lv_iinc (v := 1) (lv' := [(4, .int 1), (3, .int 0), (2, .int 1), (5, .int 0), (0, .ref h0), (1, .int 0)]) hx hb dX10_scan_149 hl (k := 3) rfl (by decide) (by decide) rfl (fun ls hl => ?_)
  refine lv_goto (tgt := 39) hx hb dX10_scan_152 (by decide) ?_
  refine lv_iload_n hx hb dX10_scan_39 rfl (lv_at hl 1 rfl) ?_
  refine lv_if_eq (tgt := 155) hx hb dX10_scan_40 (by decide) (fun _ => ?_) (fun c => absurd (by decide) c)
  have hP9 := hP.sub (ws' := [(h0, .inr (10, [.ref h1, .ref h2, .ref h3, .ref h4, .ref h5, .ref h6, .int 0, .int 1, .int 0, .int 0, .int 0, .long 0])), (h6, .inl (y0, 2600, .inl (fun _ => 0))), (h1, .inl (y1, 2501, .inl f5)), (h2, .inl (y2, 2501, .inl f6)), (h3, .inl (y3, 2501, .inl f7)), (h4, .inl (y4, 2501, .inr (.inl f8)))]) [5, 0, 1, 2, 3, 4] rfl
  have hD9 := hD.sub (ws' := [(h0, .inr (10, [.ref h1, .ref h2, .ref h3, .ref h4, .ref h5, .ref h6, .int 0, .int 1, .int 0, .int 0, .int 0, .long 0])), (h6, .inl (y0, 2600, .inl (fun _ => 0))), (h1, .inl (y1, 2501, .inl f5)), (h2, .inl (y2, 2501, .inl f6)), (h3, .inl (y3, 2501, .inl f7)), (h4, .inl (y4, 2501, .inr (.inl f8)))]) [5, 0, 1, 2, 3, 4] (by decide) rfl
  have hK9 := hK.sub (tys' := [(y0, .int), (y1, .int), (y2, .int), (y3, .int), (y4, .long)]) [0, 1, 2, 3, 4] rfl
  exact W.vret hx hb hr (fun t ht hW => ⟨⟨(f5, f6, f7, f8), rfl, ⟨(fun j => iv_w (if5 j) (by decide) (by decide)), (ku ef5 (by decide)), (fun j => iv_w (if6 j) (by decide) (by decide)), (ku ef6 (by decide)), (fun j => iv_w (if7 j) (by decide) (by decide)), (ku ef7 (by decide)), (kuL ef8 (by decide)), trivial⟩, by rw [ht]; exact hP9, va_K.moved hW.alike hK9, hD9⟩, hS.F ht⟩) hS.2.2 dX10_scan_155
set_option maxHeartbeats 4000000 in
set_option maxRecDepth 100000 in
theorem cX4_clear_1 (l : Launch) (dC : Nat → ClassId) (dI : Nat → Nat → Nat) (h0 h1 h2 h3 : Nat) (sz : Nat) : Met l yX4_clear (Cond.code yX4_clear cX4_clear 1 none :: lw_G) ({ frames := 0, cells := 0, slots := 0, locals := 0 }) (va_Pc [.ref h0] (fun U => U.heap.size = sz ∧ va_P (dC, dI) vwCl [(h0, .inr (4, [.ref h1, .ref h2, .ref h3, .int 0]))] U.heap ∧ va_K (dC, dI) vwCl [] U ∧ va_D (fun _ => True) [(h0, .inr (4, [.ref h1, .ref h2, .ref h3, .int 0]))])) (va_Qv (fun (u : Unit) => True) (fun (u : Unit) (t : State) => va_P (dC, dI) vwCl [(h0, .inr (4, [.ref h1, .ref h2, .ref h3, .int 0]))] t.heap ∧ va_K (dC, dI) vwCl [] t ∧ va_D (va_A [(h0, .inr (4, [.ref h1, .ref h2, .ref h3, .int 0]))] sz) [(h0, .inr (4, [.ref h1, .ref h2, .ref h3, .int 0]))]) (va_A [(h0, .inr (4, [.ref h1, .ref h2, .ref h3, .int 0]))] sz)) 0 0 (va_A [(h0, .inr (4, [.ref h1, .ref h2, .ref h3, .int 0]))] sz) := by
  refine Met.ofW (cc := cX4_clear) (maxL := 1) (ret := none) (by decide) rfl ?_
  intro p e s m args below meth c s₁ B hml hv
  obtain ⟨rfl, hsz, hP, hK, hD0⟩ := hv
  have hx := B.exec
  have hb := B.bytes
  have hr := B.returns
  have hts0 := atoms_spec (ws := Cond.code yX4_clear cX4_clear 1 none :: lw_G) B.pre
  have hG : ∀ w ∈ lw_G, w.before _ s = true := fun w h => hts0 w (List.mem_cons_of_mem _ h)
  have hown : s.vm.findClass RX4 = some m.cls := findClass_of_methodNamed B.named
  have hlocks := B.notSynchronized
  subst hsz
  have hD := hD0.self (sz := s.heap.size)
  generalize hAe : va_A [(h0, .inr (4, [.ref h1, .ref h2, .ref h3, .int 0]))] s.heap.size = A at hD ⊢
  have hA : ∀ q : Nat, s.heap.size ≤ q → A q := fun q h => by rw [← hAe]; exact Or.inr h
  have hS : va_S A s.heap s.heap [] := va_S.rf
  have hP : va_P (dC, dI) vwCl [(h0, .inr (4, [.ref h1, .ref h2, .ref h3, .int 0]))] s.heap := hP
  have hl := lv_entry ([.ref h0]) (n := 1) (Nat.le_of_ble_eq_true rfl)
  rw [lg_entry_eq]
  generalize (lg_sl ([.ref h0]) ++ List.replicate (1 - (lg_sl ([.ref h0])).length) Slot.unset).toArray = ls at hl ⊢
  have hl : lv_has ls 1 [(0, .ref h0)] := hl
  refine lv_aload_n hx hb dX4_clear_0 rfl (lv_at hl 0 rfl) ?_
  refine lv_iconst (v := 0) hx hb dX4_clear_1 (by decide) ?_
  refine va_put (D := (dC, dI)) (ci := 4) (v := .int 0) (ty := .int) (C := RX4) (T := TX4) (N := 4) hx hb hG inGX4 tyX4 tyX4_ok nmX4 hown hK hP hD hS 0 rfl rfl 3 (by decide) (hG _ wd_211) (fun _ h9 => h9) rfl (by decide +kernel) rfl rfl (Nat.le_of_ble_eq_true rfl) dX4_clear_2 (fun H locs hP hD hS => ?_)
  have hP : va_P (dC, dI) vwCl [(h0, .inr (4, [.ref h1, .ref h2, .ref h3, .int 0]))] H := hP
  have hD : va_D A [(h0, .inr (4, [.ref h1, .ref h2, .ref h3, .int 0]))] := hD
  have hP9 := hP.sub (ws' := [(h0, .inr (4, [.ref h1, .ref h2, .ref h3, .int 0]))]) [0] rfl
  have hD9 := hD.sub (ws' := [(h0, .inr (4, [.ref h1, .ref h2, .ref h3, .int 0]))]) [0] (by decide) rfl
  have hK9 := hK.sub (tys' := []) [] rfl
  exact W.vret hx hb hr (fun t ht hW => ⟨⟨(), rfl, trivial, by rw [ht]; exact hP9, va_K.moved hW.alike hK9, hD9⟩, hS.F ht⟩) hS.2.2 dX4_clear_5
set_option maxHeartbeats 4000000 in
set_option maxRecDepth 100000 in
theorem cX0_open_1 (l : Launch) (dC : Nat → ClassId) (dI : Nat → Nat → Nat) (h0 h1 h2 h3 h4 h5 h6 h7 h8 h9 h10 h11 h12 h13 h14 h15 h16 : Nat) (y0 y1 y2 y3 y4 : ClassId) (sz : Nat) : Met l yX0_open (Cond.code yX0_open cX0_open 2 (some .boolean) :: lw_G) ({ frames := 3, cells := 0, slots := 0, locals := 69 }) (va_Pc [.ref h0, .int 0] (fun U => U.heap.size = sz ∧ va_P (dC, dI) vwCl [(h0, .inr (0, [.ref h1, .ref h2, .ref h3, .ref h4, .ref h5, .ref h6, .ref h7, .int 0, .int 0, .int 0, .int 0, .int 0, .int 0, .int 0, .int 0, .int 0, .int 0])), (h1, .inr (10, [.ref h8, .ref h9, .ref h10, .ref h11, .ref h12, .ref h13, .int 0, .int 0, .int 0, .int 0, .int 0, .long 0])), (h13, .inl (y0, 2600, .inl (fun _ => 0))), (h8, .inl (y1, 2501, .inl (fun _ => 0))), (h9, .inl (y2, 2501, .inl (fun _ => 0))), (h10, .inl (y3, 2501, .inl (fun _ => 0))), (h11, .inl (y4, 2501, .inr (.inl (fun _ => 0)))), (h6, .inr (4, [.ref h14, .ref h15, .ref h16, .int 0]))] U.heap ∧ va_K (dC, dI) vwCl [(y0, .int), (y1, .int), (y2, .int), (y3, .int), (y4, .long)] U ∧ va_D (fun _ => True) [(h0, .inr (0, [.ref h1, .ref h2, .ref h3, .ref h4, .ref h5, .ref h6, .ref h7, .int 0, .int 0, .int 0, .int 0, .int 0, .int 0, .int 0, .int 0, .int 0, .int 0])), (h1, .inr (10, [.ref h8, .ref h9, .ref h10, .ref h11, .ref h12, .ref h13, .int 0, .int 0, .int 0, .int 0, .int 0, .long 0])), (h13, .inl (y0, 2600, .inl (fun _ => 0))), (h8, .inl (y1, 2501, .inl (fun _ => 0))), (h9, .inl (y2, 2501, .inl (fun _ => 0))), (h10, .inl (y3, 2501, .inl (fun _ => 0))), (h11, .inl (y4, 2501, .inr (.inl (fun _ => 0)))), (h6, .inr (4, [.ref h14, .ref h15, .ref h16, .int 0]))])) (va_Qi (fun (r : Int32) (u : (Nat → Int32) × (Nat → Int32) × (Nat → Int32) × (Nat → Int64)) => r = 1 ∧ (∀ j, iv (u.1 j) 0 0) ∧ u.1 0 = 0 ∧ (∀ j, iv (u.2.1 j) 0 0) ∧ u.2.1 0 = 0 ∧ (∀ j, iv (u.2.2.1 j) 0 0) ∧ u.2.2.1 0 = 0 ∧ u.2.2.2 0 = 0 ∧ True) (fun (u : (Nat → Int32) × (Nat → Int32) × (Nat → Int32) × (Nat → Int64)) (t : State) => va_P (dC, dI) vwCl [(h0, .inr (0, [.ref h1, .ref h2, .ref h3, .ref h4, .ref h5, .ref h6, .ref h7, .int 0, .int 0, .int 0, .int 0, .int 0, .int 0, .int 0, .int 0, .int 0, .int 0])), (h1, .inr (10, [.ref h8, .ref h9, .ref h10, .ref h11, .ref h12, .ref h13, .int 0, .int 1, .int 0, .int 0, .int 0, .long 0])), (h13, .inl (y0, 2600, .inl (fun _ => 0))), (h8, .inl (y1, 2501, .inl u.1)), (h9, .inl (y2, 2501, .inl u.2.1)), (h10, .inl (y3, 2501, .inl u.2.2.1)), (h11, .inl (y4, 2501, .inr (.inl u.2.2.2))), (h6, .inr (4, [.ref h14, .ref h15, .ref h16, .int 0]))] t.heap ∧ va_K (dC, dI) vwCl [(y0, .int), (y1, .int), (y2, .int), (y3, .int), (y4, .long)] t ∧ va_D (va_A [(h0, .inr (0, [.ref h1, .ref h2, .ref h3, .ref h4, .ref h5, .ref h6, .ref h7, .int 0, .int 0, .int 0, .int 0, .int 0, .int 0, .int 0, .int 0, .int 0, .int 0])), (h1, .inr (10, [.ref h8, .ref h9, .ref h10, .ref h11, .ref h12, .ref h13, .int 0, .int 0, .int 0, .int 0, .int 0, .long 0])), (h13, .inl (y0, 2600, .inl (fun _ => 0))), (h8, .inl (y1, 2501, .inl (fun _ => 0))), (h9, .inl (y2, 2501, .inl (fun _ => 0))), (h10, .inl (y3, 2501, .inl (fun _ => 0))), (h11, .inl (y4, 2501, .inr (.inl (fun _ => 0)))), (h6, .inr (4, [.ref h14, .ref h15, .ref h16, .int 0]))] sz) [(h0, .inr (0, [.ref h1, .ref h2, .ref h3, .ref h4, .ref h5, .ref h6, .ref h7, .int 0, .int 0, .int 0, .int 0, .int 0, .int 0, .int 0, .int 0, .int 0, .int 0])), (h1, .inr (10, [.ref h8, .ref h9, .ref h10, .ref h11, .ref h12, .ref h13, .int 0, .int 1, .int 0, .int 0, .int 0, .long 0])), (h13, .inl (y0, 2600, .inl (fun _ => 0))), (h8, .inl (y1, 2501, .inl u.1)), (h9, .inl (y2, 2501, .inl u.2.1)), (h10, .inl (y3, 2501, .inl u.2.2.1)), (h11, .inl (y4, 2501, .inr (.inl u.2.2.2))), (h6, .inr (4, [.ref h14, .ref h15, .ref h16, .int 0]))]) (va_A [(h0, .inr (0, [.ref h1, .ref h2, .ref h3, .ref h4, .ref h5, .ref h6, .ref h7, .int 0, .int 0, .int 0, .int 0, .int 0, .int 0, .int 0, .int 0, .int 0, .int 0])), (h1, .inr (10, [.ref h8, .ref h9, .ref h10, .ref h11, .ref h12, .ref h13, .int 0, .int 0, .int 0, .int 0, .int 0, .long 0])), (h13, .inl (y0, 2600, .inl (fun _ => 0))), (h8, .inl (y1, 2501, .inl (fun _ => 0))), (h9, .inl (y2, 2501, .inl (fun _ => 0))), (h10, .inl (y3, 2501, .inl (fun _ => 0))), (h11, .inl (y4, 2501, .inr (.inl (fun _ => 0)))), (h6, .inr (4, [.ref h14, .ref h15, .ref h16, .int 0]))] sz)) 0 0 (va_A [(h0, .inr (0, [.ref h1, .ref h2, .ref h3, .ref h4, .ref h5, .ref h6, .ref h7, .int 0, .int 0, .int 0, .int 0, .int 0, .int 0, .int 0, .int 0, .int 0, .int 0])), (h1, .inr (10, [.ref h8, .ref h9, .ref h10, .ref h11, .ref h12, .ref h13, .int 0, .int 0, .int 0, .int 0, .int 0, .long 0])), (h13, .inl (y0, 2600, .inl (fun _ => 0))), (h8, .inl (y1, 2501, .inl (fun _ => 0))), (h9, .inl (y2, 2501, .inl (fun _ => 0))), (h10, .inl (y3, 2501, .inl (fun _ => 0))), (h11, .inl (y4, 2501, .inr (.inl (fun _ => 0)))), (h6, .inr (4, [.ref h14, .ref h15, .ref h16, .int 0]))] sz) := by
  refine Met.ofW (cc := cX0_open) (maxL := 2) (ret := (some .boolean)) (by decide) rfl ?_
  intro p e s m args below meth c s₁ B hml hv
  obtain ⟨rfl, hsz, hP, hK, hD0⟩ := hv
  have hx := B.exec
  have hb := B.bytes
  have hr := B.returns
  have hts0 := atoms_spec (ws := Cond.code yX0_open cX0_open 2 (some .boolean) :: lw_G) B.pre
  have hG : ∀ w ∈ lw_G, w.before _ s = true := fun w h => hts0 w (List.mem_cons_of_mem _ h)
  have hown : s.vm.findClass RX0 = some m.cls := findClass_of_methodNamed B.named
  have hlocks := B.notSynchronized
  subst hsz
  have hD := hD0.self (sz := s.heap.size)
  generalize hAe : va_A [(h0, .inr (0, [.ref h1, .ref h2, .ref h3, .ref h4, .ref h5, .ref h6, .ref h7, .int 0, .int 0, .int 0, .int 0, .int 0, .int 0, .int 0, .int 0, .int 0, .int 0])), (h1, .inr (10, [.ref h8, .ref h9, .ref h10, .ref h11, .ref h12, .ref h13, .int 0, .int 0, .int 0, .int 0, .int 0, .long 0])), (h13, .inl (y0, 2600, .inl (fun _ => 0))), (h8, .inl (y1, 2501, .inl (fun _ => 0))), (h9, .inl (y2, 2501, .inl (fun _ => 0))), (h10, .inl (y3, 2501, .inl (fun _ => 0))), (h11, .inl (y4, 2501, .inr (.inl (fun _ => 0)))), (h6, .inr (4, [.ref h14, .ref h15, .ref h16, .int 0]))] s.heap.size = A at hD ⊢
  have hA : ∀ q : Nat, s.heap.size ≤ q → A q := fun q h => by rw [← hAe]; exact Or.inr h
  have hS : va_S A s.heap s.heap [] := va_S.rf
  have hP : va_P (dC, dI) vwCl [(h0, .inr (0, [.ref h1, .ref h2, .ref h3, .ref h4, .ref h5, .ref h6, .ref h7, .int 0, .int 0, .int 0, .int 0, .int 0, .int 0, .int 0, .int 0, .int 0, .int 0])), (h1, .inr (10, [.ref h8, .ref h9, .ref h10, .ref h11, .ref h12, .ref h13, .int 0, .int 0, .int 0, .int 0, .int 0, .long 0])), (h13, .inl (y0, 2600, .inl (fun _ => 0))), (h8, .inl (y1, 2501, .inl (fun _ => 0))), (h9, .inl (y2, 2501, .inl (fun _ => 0))), (h10, .inl (y3, 2501, .inl (fun _ => 0))), (h11, .inl (y4, 2501, .inr (.inl (fun _ => 0)))), (h6, .inr (4, [.ref h14, .ref h15, .ref h16, .int 0]))] s.heap := hP
  have hl := lv_entry ([.ref h0, .int 0]) (n := 2) (Nat.le_of_ble_eq_true rfl)
  rw [lg_entry_eq]
  generalize (lg_sl ([.ref h0, .int 0]) ++ List.replicate (2 - (lg_sl ([.ref h0, .int 0])).length) Slot.unset).toArray = ls at hl ⊢
  have hl : lv_has ls 2 [(0, .ref h0), (1, .int 0)] := hl
  refine lv_aload_n hx hb dX0_open_0 rfl (lv_at hl 0 rfl) ?_
  refine lv_iconst (v := 0) hx hb dX0_open_1 (by decide) ?_
  refine va_put (D := (dC, dI)) (ci := 0) (v := .int 0) (ty := .int) (C := RX0) (T := TX0) (N := 17) hx hb hG inGX0 tyX0 tyX0_ok nmX0 hown hK hP hD hS 0 rfl rfl 15 (by decide) (hG _ wd_336) (fun _ h9 => h9) rfl (by decide +kernel) rfl rfl (Nat.le_of_ble_eq_true rfl) dX0_open_2 (fun H locs hP hD hS => ?_)
  have hP : va_P (dC, dI) vwCl [(h0, .inr (0, [.ref h1, .ref h2, .ref h3, .ref h4, .ref h5, .ref h6, .ref h7, .int 0, .int 0, .int 0, .int 0, .int 0, .int 0, .int 0, .int 0, .int 0, .int 0])), (h1, .inr (10, [.ref h8, .ref h9, .ref h10, .ref h11, .ref h12, .ref h13, .int 0, .int 0, .int 0, .int 0, .int 0, .long 0])), (h13, .inl (y0, 2600, .inl (fun _ => 0))), (h8, .inl (y1, 2501, .inl (fun _ => 0))), (h9, .inl (y2, 2501, .inl (fun _ => 0))), (h10, .inl (y3, 2501, .inl (fun _ => 0))), (h11, .inl (y4, 2501, .inr (.inl (fun _ => 0)))), (h6, .inr (4, [.ref h14, .ref h15, .ref h16, .int 0]))] H := hP
  have hD : va_D A [(h0, .inr (0, [.ref h1, .ref h2, .ref h3, .ref h4, .ref h5, .ref h6, .ref h7, .int 0, .int 0, .int 0, .int 0, .int 0, .int 0, .int 0, .int 0, .int 0, .int 0])), (h1, .inr (10, [.ref h8, .ref h9, .ref h10, .ref h11, .ref h12, .ref h13, .int 0, .int 0, .int 0, .int 0, .int 0, .long 0])), (h13, .inl (y0, 2600, .inl (fun _ => 0))), (h8, .inl (y1, 2501, .inl (fun _ => 0))), (h9, .inl (y2, 2501, .inl (fun _ => 0))), (h10, .inl (y3, 2501, .inl (fun _ => 0))), (h11, .inl (y4, 2501, .inr (.inl (fun _ => 0)))), (h6, .inr (4, [.ref h14, .ref h15, .ref h16, .int 0]))] := hD
  refine lv_aload_n hx hb dX0_open_5 rfl (lv_at hl 0 rfl) ?_
  refine lv_iconst (v := 0) hx hb dX0_open_6 (by decide) ?_
  refine va_put (D := (dC, dI)) (ci := 0) (v := .int 0) (ty := .int) (C := RX0) (T := TX0) (N := 17) hx hb hG inGX0 tyX0 tyX0_ok nmX0 hown hK hP hD hS 0 rfl rfl 16 (by decide) (hG _ wd_337) (fun _ h9 => h9) rfl (by decide +kernel) rfl rfl (Nat.le_of_ble_eq_true rfl) dX0_open_7 (fun H locs hP hD hS => ?_)
  have hP : va_P (dC, dI) vwCl [(h0, .inr (0, [.ref h1, .ref h2, .ref h3, .ref h4, .ref h5, .ref h6, .ref h7, .int 0, .int 0, .int 0, .int 0, .int 0, .int 0, .int 0, .int 0, .int 0, .int 0])), (h1, .inr (10, [.ref h8, .ref h9, .ref h10, .ref h11, .ref h12, .ref h13, .int 0, .int 0, .int 0, .int 0, .int 0, .long 0])), (h13, .inl (y0, 2600, .inl (fun _ => 0))), (h8, .inl (y1, 2501, .inl (fun _ => 0))), (h9, .inl (y2, 2501, .inl (fun _ => 0))), (h10, .inl (y3, 2501, .inl (fun _ => 0))), (h11, .inl (y4, 2501, .inr (.inl (fun _ => 0)))), (h6, .inr (4, [.ref h14, .ref h15, .ref h16, .int 0]))] H := hP
  have hD : va_D A [(h0, .inr (0, [.ref h1, .ref h2, .ref h3, .ref h4, .ref h5, .ref h6, .ref h7, .int 0, .int 0, .int 0, .int 0, .int 0, .int 0, .int 0, .int 0, .int 0, .int 0])), (h1, .inr (10, [.ref h8, .ref h9, .ref h10, .ref h11, .ref h12, .ref h13, .int 0, .int 0, .int 0, .int 0, .int 0, .long 0])), (h13, .inl (y0, 2600, .inl (fun _ => 0))), (h8, .inl (y1, 2501, .inl (fun _ => 0))), (h9, .inl (y2, 2501, .inl (fun _ => 0))), (h10, .inl (y3, 2501, .inl (fun _ => 0))), (h11, .inl (y4, 2501, .inr (.inl (fun _ => 0)))), (h6, .inr (4, [.ref h14, .ref h15, .ref h16, .int 0]))] := hD
  refine lv_iload_n hx hb dX0_open_10 rfl (lv_at hl 1 rfl) ?_
  refine lv_sipush (v := 2500) hx hb dX0_open_11 (by decide) ?_
  refine lv_icmp_le (tgt := 27) hx hb dX0_open_14 (by decide) (fun _ => ?_) (fun c => absurd (by decide) c)
  refine lv_aload_n hx hb dX0_open_27 rfl (lv_at hl 0 rfl) ?_
  refine va_get (D := (dC, dI)) (ci := 0) (v := .ref h1) (C := RX0) (T := TX0) (N := 17) hx hb hG inGX0 hown hK hP 0 rfl rfl 0 (by decide) (hG _ wd_321) (fun _ h9 => h9) rfl dX0_open_28 ?_
  refine lv_iload_n hx hb dX0_open_31 rfl (lv_at hl 1 rfl) ?_
  have hPc := hP.sub (ws' := [(h1, .inr (10, [.ref h8, .ref h9, .ref h10, .ref h11, .ref h12, .ref h13, .int 0, .int 0, .int 0, .int 0, .int 0, .long 0])), (h13, .inl (y0, 2600, .inl (fun _ => 0))), (h8, .inl (y1, 2501, .inl (fun _ => 0))), (h9, .inl (y2, 2501, .inl (fun _ => 0))), (h10, .inl (y3, 2501, .inl (fun _ => 0))), (h11, .inl (y4, 2501, .inr (.inl (fun _ => 0))))]) [1, 2, 3, 4, 5, 6] rfl
  have hDc := hD.sub (ws' := [(h1, .inr (10, [.ref h8, .ref h9, .ref h10, .ref h11, .ref h12, .ref h13, .int 0, .int 0, .int 0, .int 0, .int 0, .long 0])), (h13, .inl (y0, 2600, .inl (fun _ => 0))), (h8, .inl (y1, 2501, .inl (fun _ => 0))), (h9, .inl (y2, 2501, .inl (fun _ => 0))), (h10, .inl (y3, 2501, .inl (fun _ => 0))), (h11, .inl (y4, 2501, .inr (.inl (fun _ => 0))))]) [1, 2, 3, 4, 5, 6] (by decide) rfl
  have hKc := hK.sub (tys' := [(y0, .int), (y1, .int), (y2, .int), (y3, .int), (y4, .long)]) [0, 1, 2, 3, 4] rfl
  have hFc := va_free (wc := [(h1, .inr (10, [.ref h8, .ref h9, .ref h10, .ref h11, .ref h12, .ref h13, .int 0, .int 0, .int 0, .int 0, .int 0, .long 0])), (h13, .inl (y0, 2600, .inl (fun _ => 0))), (h8, .inl (y1, 2501, .inl (fun _ => 0))), (h9, .inl (y2, 2501, .inl (fun _ => 0))), (h10, .inl (y3, 2501, .inl (fun _ => 0))), (h11, .inl (y4, 2501, .inr (.inl (fun _ => 0))))]) hD hS hA [1, 2, 3, 4, 5, 6] rfl
  refine va_callv (va_runV (As := [.int 0]) (rest := []) ⟨hx, hb, hml, hown, hG⟩ (cX10_scan_1 l dC dI h1 h8 h9 h10 h11 h12 h13 y0 y1 y2 y3 y4 H.size) (cwV 1 hG (gV wd_441 wd_442 wd_443 wd_11 wd_444) rfl rfl rfl (by decide +kernel) ⟨Nat.le_of_ble_eq_true rfl, Nat.le_of_ble_eq_true rfl⟩) ⟨fun a U g mk q => by obtain ⟨q0, q1, qP, qK, qD⟩ := q; exact ⟨q0, q1, qP, va_K.moved (u := U) (U := U.calling g mk a) (Vm.Alike.refl U.vm) qK, qD⟩, va_recv hKc hPc (ci := 10) (q0 := 0) rfl rfl, fun U hU hW => ⟨rfl, by rw [hU], by rw [hU]; exact hPc, va_K.moved hW.alike hKc, hDc.weaken (fun _ _ _ _ => trivial)⟩⟩ rfl rfl hl.1 rfl (lv_room (Nat.le_of_ble_eq_true rfl)) dX0_open_32 ⟨by decide, by decide⟩) hS (fun q _ h => hFc q h) hFc (fun u2 t H1 locs ht hvm hw hB hz1 hk1 hS => ?_)
  obtain ⟨u2_0, u2_1, u2_2, u2_3⟩ := u2
  have hw : (∀ j, iv (u2_0 j) 0 0) ∧ u2_0 0 = 0 ∧ (∀ j, iv (u2_1 j) 0 0) ∧ u2_1 0 = 0 ∧ (∀ j, iv (u2_2 j) 0 0) ∧ u2_2 0 = 0 ∧ u2_3 0 = 0 ∧ True := hw
  obtain ⟨iu2_0, ku2_0_0, iu2_1, ku2_1_0, iu2_2, ku2_2_0, ku2_3_0, -⟩ := hw
  obtain ⟨hP1, hK1, hD1⟩ := hB
  rw [ht] at hP1
  have hK1 := va_K.moved hvm.symm hK1
  obtain ⟨hP, hD⟩ := va_join (wr := [(h0, .inr (0, [.ref h1, .ref h2, .ref h3, .ref h4, .ref h5, .ref h6, .ref h7, .int 0, .int 0, .int 0, .int 0, .int 0, .int 0, .int 0, .int 0, .int 0, .int 0])), (h6, .inr (4, [.ref h14, .ref h15, .ref h16, .int 0]))]) (w1 := [(h1, .inr (10, [.ref h8, .ref h9, .ref h10, .ref h11, .ref h12, .ref h13, .int 0, .int 1, .int 0, .int 0, .int 0, .long 0])), (h13, .inl (y0, 2600, .inl (fun _ => 0))), (h8, .inl (y1, 2501, .inl u2_0)), (h9, .inl (y2, 2501, .inl u2_1)), (h10, .inl (y3, 2501, .inl u2_2)), (h11, .inl (y4, 2501, .inr (.inl u2_3)))]) hP hD [1, 2, 3, 4, 5, 6] [0, 7] rfl rfl (by decide) (by decide) hk1 hFc hP1 hD1
  have hK := (hK.sub (tys' := []) [] rfl).app hK1
  generalize H1 = H at hP hS ⊢
  have hP : va_P (dC, dI) vwCl [(h0, .inr (0, [.ref h1, .ref h2, .ref h3, .ref h4, .ref h5, .ref h6, .ref h7, .int 0, .int 0, .int 0, .int 0, .int 0, .int 0, .int 0, .int 0, .int 0, .int 0])), (h6, .inr (4, [.ref h14, .ref h15, .ref h16, .int 0])), (h1, .inr (10, [.ref h8, .ref h9, .ref h10, .ref h11, .ref h12, .ref h13, .int 0, .int 1, .int 0, .int 0, .int 0, .long 0])), (h13, .inl (y0, 2600, .inl (fun _ => 0))), (h8, .inl (y1, 2501, .inl u2_0)), (h9, .inl (y2, 2501, .inl u2_1)), (h10, .inl (y3, 2501, .inl u2_2)), (h11, .inl (y4, 2501, .inr (.inl u2_3)))] H := hP
  have hD : va_D A [(h0, .inr (0, [.ref h1, .ref h2, .ref h3, .ref h4, .ref h5, .ref h6, .ref h7, .int 0, .int 0, .int 0, .int 0, .int 0, .int 0, .int 0, .int 0, .int 0, .int 0])), (h6, .inr (4, [.ref h14, .ref h15, .ref h16, .int 0])), (h1, .inr (10, [.ref h8, .ref h9, .ref h10, .ref h11, .ref h12, .ref h13, .int 0, .int 1, .int 0, .int 0, .int 0, .long 0])), (h13, .inl (y0, 2600, .inl (fun _ => 0))), (h8, .inl (y1, 2501, .inl u2_0)), (h9, .inl (y2, 2501, .inl u2_1)), (h10, .inl (y3, 2501, .inl u2_2)), (h11, .inl (y4, 2501, .inr (.inl u2_3)))] := hD
  have hK : va_K (dC, dI) vwCl [(y0, .int), (y1, .int), (y2, .int), (y3, .int), (y4, .long)] s := hK
  refine lv_aload_n hx hb dX0_open_35 rfl (lv_at hl 0 rfl) ?_
  refine va_get (D := (dC, dI)) (ci := 0) (v := .ref h6) (C := RX0) (T := TX0) (N := 17) hx hb hG inGX0 hown hK hP 0 rfl rfl 5 (by decide) (hG _ wd_326) (fun _ h9 => h9) rfl dX0_open_36 ?_
  have hPc := hP.sub (ws' := [(h6, .inr (4, [.ref h14, .ref h15, .ref h16, .int 0]))]) [1] rfl
  have hDc := hD.sub (ws' := [(h6, .inr (4, [.ref h14, .ref h15, .ref h16, .int 0]))]) [1] (by decide) rfl
  have hKc := hK.sub (tys' := []) [] rfl
  have hFc := va_free (wc := [(h6, .inr (4, [.ref h14, .ref h15, .ref h16, .int 0]))]) hD hS hA [1] rfl
  refine va_callv (va_runV (As := []) (rest := []) ⟨hx, hb, hml, hown, hG⟩ (cX4_clear_1 l dC dI h6 h14 h15 h16 H.size) (cwV 0 hG (gV wd_539 wd_540 wd_541 wd_10 wd_542) rfl rfl rfl (by decide +kernel) ⟨Nat.le_of_ble_eq_true rfl, Nat.le_of_ble_eq_true rfl⟩) ⟨fun a U g mk q => by obtain ⟨q0, q1, qP, qK, qD⟩ := q; exact ⟨q0, q1, qP, va_K.moved (u := U) (U := U.calling g mk a) (Vm.Alike.refl U.vm) qK, qD⟩, va_recv hKc hPc (ci := 4) (q0 := 0) rfl rfl, fun U hU hW => ⟨rfl, by rw [hU], by rw [hU]; exact hPc, va_K.moved hW.alike hKc, hDc.weaken (fun _ _ _ _ => trivial)⟩⟩ rfl rfl hl.1 rfl (lv_room (Nat.le_of_ble_eq_true rfl)) dX0_open_39 ⟨by decide, by decide⟩) hS (fun q _ h => hFc q h) hFc (fun u4 t H1 locs ht hvm hw hB hz1 hk1 hS => ?_)
  obtain ⟨hP1, hK1, hD1⟩ := hB
  rw [ht] at hP1
  have hK1 := va_K.moved hvm.symm hK1
  obtain ⟨hP, hD⟩ := va_join (wr := [(h0, .inr (0, [.ref h1, .ref h2, .ref h3, .ref h4, .ref h5, .ref h6, .ref h7, .int 0, .int 0, .int 0, .int 0, .int 0, .int 0, .int 0, .int 0, .int 0, .int 0])), (h1, .inr (10, [.ref h8, .ref h9, .ref h10, .ref h11, .ref h12, .ref h13, .int 0, .int 1, .int 0, .int 0, .int 0, .long 0])), (h13, .inl (y0, 2600, .inl (fun _ => 0))), (h8, .inl (y1, 2501, .inl u2_0)), (h9, .inl (y2, 2501, .inl u2_1)), (h10, .inl (y3, 2501, .inl u2_2)), (h11, .inl (y4, 2501, .inr (.inl u2_3)))]) (w1 := [(h6, .inr (4, [.ref h14, .ref h15, .ref h16, .int 0]))]) hP hD [1] [0, 2, 3, 4, 5, 6, 7] rfl rfl (by decide) (by decide) hk1 hFc hP1 hD1
  have hK := (hK.sub (tys' := [(y0, .int), (y1, .int), (y2, .int), (y3, .int), (y4, .long)]) [0, 1, 2, 3, 4] rfl).app hK1
  generalize H1 = H at hP hS ⊢
  have hP : va_P (dC, dI) vwCl [(h0, .inr (0, [.ref h1, .ref h2, .ref h3, .ref h4, .ref h5, .ref h6, .ref h7, .int 0, .int 0, .int 0, .int 0, .int 0, .int 0, .int 0, .int 0, .int 0, .int 0])), (h1, .inr (10, [.ref h8, .ref h9, .ref h10, .ref h11, .ref h12, .ref h13, .int 0, .int 1, .int 0, .int 0, .int 0, .long 0])), (h13, .inl (y0, 2600, .inl (fun _ => 0))), (h8, .inl (y1, 2501, .inl u2_0)), (h9, .inl (y2, 2501, .inl u2_1)), (h10, .inl (y3, 2501, .inl u2_2)), (h11, .inl (y4, 2501, .inr (.inl u2_3))), (h6, .inr (4, [.ref h14, .ref h15, .ref h16, .int 0]))] H := hP
  have hD : va_D A [(h0, .inr (0, [.ref h1, .ref h2, .ref h3, .ref h4, .ref h5, .ref h6, .ref h7, .int 0, .int 0, .int 0, .int 0, .int 0, .int 0, .int 0, .int 0, .int 0, .int 0])), (h1, .inr (10, [.ref h8, .ref h9, .ref h10, .ref h11, .ref h12, .ref h13, .int 0, .int 1, .int 0, .int 0, .int 0, .long 0])), (h13, .inl (y0, 2600, .inl (fun _ => 0))), (h8, .inl (y1, 2501, .inl u2_0)), (h9, .inl (y2, 2501, .inl u2_1)), (h10, .inl (y3, 2501, .inl u2_2)), (h11, .inl (y4, 2501, .inr (.inl u2_3))), (h6, .inr (4, [.ref h14, .ref h15, .ref h16, .int 0]))] := hD
  have hK : va_K (dC, dI) vwCl [(y0, .int), (y1, .int), (y2, .int), (y3, .int), (y4, .long)] s := hK
  refine lv_iconst (v := 1) hx hb dX0_open_42 (by decide) ?_
  have hP9 := hP.sub (ws' := [(h0, .inr (0, [.ref h1, .ref h2, .ref h3, .ref h4, .ref h5, .ref h6, .ref h7, .int 0, .int 0, .int 0, .int 0, .int 0, .int 0, .int 0, .int 0, .int 0, .int 0])), (h1, .inr (10, [.ref h8, .ref h9, .ref h10, .ref h11, .ref h12, .ref h13, .int 0, .int 1, .int 0, .int 0, .int 0, .long 0])), (h13, .inl (y0, 2600, .inl (fun _ => 0))), (h8, .inl (y1, 2501, .inl u2_0)), (h9, .inl (y2, 2501, .inl u2_1)), (h10, .inl (y3, 2501, .inl u2_2)), (h11, .inl (y4, 2501, .inr (.inl u2_3))), (h6, .inr (4, [.ref h14, .ref h15, .ref h16, .int 0]))]) [0, 1, 2, 3, 4, 5, 6, 7] rfl
  have hD9 := hD.sub (ws' := [(h0, .inr (0, [.ref h1, .ref h2, .ref h3, .ref h4, .ref h5, .ref h6, .ref h7, .int 0, .int 0, .int 0, .int 0, .int 0, .int 0, .int 0, .int 0, .int 0, .int 0])), (h1, .inr (10, [.ref h8, .ref h9, .ref h10, .ref h11, .ref h12, .ref h13, .int 0, .int 1, .int 0, .int 0, .int 0, .long 0])), (h13, .inl (y0, 2600, .inl (fun _ => 0))), (h8, .inl (y1, 2501, .inl u2_0)), (h9, .inl (y2, 2501, .inl u2_1)), (h10, .inl (y3, 2501, .inl u2_2)), (h11, .inl (y4, 2501, .inr (.inl u2_3))), (h6, .inr (4, [.ref h14, .ref h15, .ref h16, .int 0]))]) [0, 1, 2, 3, 4, 5, 6, 7] (by decide) rfl
  have hK9 := hK.sub (tys' := [(y0, .int), (y1, .int), (y2, .int), (y3, .int), (y4, .long)]) [0, 1, 2, 3, 4] rfl
  exact W.zret (v := 1) hx hb hr rfl (fun t ht hW => ⟨⟨1, (u2_0, u2_1, u2_2, u2_3), rfl, ⟨rfl, (fun j => iv_w (iu2_0 j) (by decide) (by decide)), ku2_0_0, (fun j => iv_w (iu2_1 j) (by decide) (by decide)), ku2_1_0, (fun j => iv_w (iu2_2 j) (by decide) (by decide)), ku2_2_0, ku2_3_0, trivial⟩, by rw [ht]; exact hP9, va_K.moved hW.alike hK9, hD9⟩, hS.F ht⟩) hS.2.2 dX0_open_43
set_option maxHeartbeats 4000000 in
set_option maxRecDepth 100000 in
theorem cX10_rewind_1 (l : Launch) (dC : Nat → ClassId) (dI : Nat → Nat → Nat) (h0 h1 h2 h3 h4 h5 h6 : Nat) (sz : Nat) : Met l yX10_rewind (Cond.code yX10_rewind cX10_rewind 1 none :: lw_G) ({ frames := 0, cells := 0, slots := 0, locals := 0 }) (va_Pc [.ref h0] (fun U => U.heap.size = sz ∧ va_P (dC, dI) vwCl [(h0, .inr (10, [.ref h1, .ref h2, .ref h3, .ref h4, .ref h5, .ref h6, .int 0, .int 1, .int 0, .int 0, .int 0, .long 0]))] U.heap ∧ va_K (dC, dI) vwCl [] U ∧ va_D (fun _ => True) [(h0, .inr (10, [.ref h1, .ref h2, .ref h3, .ref h4, .ref h5, .ref h6, .int 0, .int 1, .int 0, .int 0, .int 0, .long 0]))])) (va_Qv (fun (u : Unit) => True) (fun (u : Unit) (t : State) => va_P (dC, dI) vwCl [(h0, .inr (10, [.ref h1, .ref h2, .ref h3, .ref h4, .ref h5, .ref h6, .int 0, .int 1, .int 0, .int 0, .int 0, .long 0]))] t.heap ∧ va_K (dC, dI) vwCl [] t ∧ va_D (va_A [(h0, .inr (10, [.ref h1, .ref h2, .ref h3, .ref h4, .ref h5, .ref h6, .int 0, .int 1, .int 0, .int 0, .int 0, .long 0]))] sz) [(h0, .inr (10, [.ref h1, .ref h2, .ref h3, .ref h4, .ref h5, .ref h6, .int 0, .int 1, .int 0, .int 0, .int 0, .long 0]))]) (va_A [(h0, .inr (10, [.ref h1, .ref h2, .ref h3, .ref h4, .ref h5, .ref h6, .int 0, .int 1, .int 0, .int 0, .int 0, .long 0]))] sz)) 0 0 (va_A [(h0, .inr (10, [.ref h1, .ref h2, .ref h3, .ref h4, .ref h5, .ref h6, .int 0, .int 1, .int 0, .int 0, .int 0, .long 0]))] sz) := by
  refine Met.ofW (cc := cX10_rewind) (maxL := 1) (ret := none) (by decide) rfl ?_
  intro p e s m args below meth c s₁ B hml hv
  obtain ⟨rfl, hsz, hP, hK, hD0⟩ := hv
  have hx := B.exec
  have hb := B.bytes
  have hr := B.returns
  have hts0 := atoms_spec (ws := Cond.code yX10_rewind cX10_rewind 1 none :: lw_G) B.pre
  have hG : ∀ w ∈ lw_G, w.before _ s = true := fun w h => hts0 w (List.mem_cons_of_mem _ h)
  have hown : s.vm.findClass RX10 = some m.cls := findClass_of_methodNamed B.named
  have hlocks := B.notSynchronized
  subst hsz
  have hD := hD0.self (sz := s.heap.size)
  generalize hAe : va_A [(h0, .inr (10, [.ref h1, .ref h2, .ref h3, .ref h4, .ref h5, .ref h6, .int 0, .int 1, .int 0, .int 0, .int 0, .long 0]))] s.heap.size = A at hD ⊢
  have hA : ∀ q : Nat, s.heap.size ≤ q → A q := fun q h => by rw [← hAe]; exact Or.inr h
  have hS : va_S A s.heap s.heap [] := va_S.rf
  have hP : va_P (dC, dI) vwCl [(h0, .inr (10, [.ref h1, .ref h2, .ref h3, .ref h4, .ref h5, .ref h6, .int 0, .int 1, .int 0, .int 0, .int 0, .long 0]))] s.heap := hP
  have hl := lv_entry ([.ref h0]) (n := 1) (Nat.le_of_ble_eq_true rfl)
  rw [lg_entry_eq]
  generalize (lg_sl ([.ref h0]) ++ List.replicate (1 - (lg_sl ([.ref h0])).length) Slot.unset).toArray = ls at hl ⊢
  have hl : lv_has ls 1 [(0, .ref h0)] := hl
  refine lv_aload_n hx hb dX10_rewind_0 rfl (lv_at hl 0 rfl) ?_
  refine lv_iconst (v := 0) hx hb dX10_rewind_1 (by decide) ?_
  refine va_put (D := (dC, dI)) (ci := 10) (v := .int 0) (ty := .int) (C := RX10) (T := TX10) (N := 12) hx hb hG inGX10 tyX10 tyX10_ok nmX10 hown hK hP hD hS 0 rfl rfl 8 (by decide) (hG _ wd_291) (fun _ h9 => h9) rfl (by decide +kernel) rfl rfl (Nat.le_of_ble_eq_true rfl) dX10_rewind_2 (fun H locs hP hD hS => ?_)
  have hP : va_P (dC, dI) vwCl [(h0, .inr (10, [.ref h1, .ref h2, .ref h3, .ref h4, .ref h5, .ref h6, .int 0, .int 1, .int 0, .int 0, .int 0, .long 0]))] H := hP
  have hD : va_D A [(h0, .inr (10, [.ref h1, .ref h2, .ref h3, .ref h4, .ref h5, .ref h6, .int 0, .int 1, .int 0, .int 0, .int 0, .long 0]))] := hD
  have hP9 := hP.sub (ws' := [(h0, .inr (10, [.ref h1, .ref h2, .ref h3, .ref h4, .ref h5, .ref h6, .int 0, .int 1, .int 0, .int 0, .int 0, .long 0]))]) [0] rfl
  have hD9 := hD.sub (ws' := [(h0, .inr (10, [.ref h1, .ref h2, .ref h3, .ref h4, .ref h5, .ref h6, .int 0, .int 1, .int 0, .int 0, .int 0, .long 0]))]) [0] (by decide) rfl
  have hK9 := hK.sub (tys' := []) [] rfl
  exact W.vret hx hb hr (fun t ht hW => ⟨⟨(), rfl, trivial, by rw [ht]; exact hP9, va_K.moved hW.alike hK9, hD9⟩, hS.F ht⟩) hS.2.2 dX10_rewind_5
set_option maxHeartbeats 4000000 in
set_option maxRecDepth 100000 in
theorem cX10_kind_1 (l : Launch) (dC : Nat → ClassId) (dI : Nat → Nat → Nat) (h0 h1 h2 h3 h4 h5 h6 : Nat) (y0 : ClassId) (sz : Nat) (f0 : Nat → Int32) (if0 : ∀ j, iv (f0 j) 0 0) (kf0_0 : f0 0 = 0) : Met l yX10_kind (Cond.code yX10_kind cX10_kind 1 (some .int) :: lw_G) ({ frames := 0, cells := 0, slots := 0, locals := 0 }) (va_Pc [.ref h0] (fun U => U.heap.size = sz ∧ va_P (dC, dI) vwCl [(h0, .inr (10, [.ref h1, .ref h2, .ref h3, .ref h4, .ref h5, .ref h6, .int 0, .int 1, .int 0, .int 0, .int 0, .long 0])), (h1, .inl (y0, 2501, .inl f0))] U.heap ∧ va_K (dC, dI) vwCl [(y0, .int)] U ∧ va_D (fun _ => True) [(h0, .inr (10, [.ref h1, .ref h2, .ref h3, .ref h4, .ref h5, .ref h6, .int 0, .int 1, .int 0, .int 0, .int 0, .long 0])), (h1, .inl (y0, 2501, .inl f0))])) (va_Qi (fun (r : Int32) (u : Unit) => r = 0 ∧ True) (fun (u : Unit) (t : State) => va_P (dC, dI) vwCl [(h0, .inr (10, [.ref h1, .ref h2, .ref h3, .ref h4, .ref h5, .ref h6, .int 0, .int 1, .int 0, .int 0, .int 0, .long 0])), (h1, .inl (y0, 2501, .inl f0))] t.heap ∧ va_K (dC, dI) vwCl [(y0, .int)] t ∧ va_D (va_A [(h0, .inr (10, [.ref h1, .ref h2, .ref h3, .ref h4, .ref h5, .ref h6, .int 0, .int 1, .int 0, .int 0, .int 0, .long 0])), (h1, .inl (y0, 2501, .inl f0))] sz) [(h0, .inr (10, [.ref h1, .ref h2, .ref h3, .ref h4, .ref h5, .ref h6, .int 0, .int 1, .int 0, .int 0, .int 0, .long 0])), (h1, .inl (y0, 2501, .inl f0))]) (va_A [(h0, .inr (10, [.ref h1, .ref h2, .ref h3, .ref h4, .ref h5, .ref h6, .int 0, .int 1, .int 0, .int 0, .int 0, .long 0])), (h1, .inl (y0, 2501, .inl f0))] sz)) 0 0 (va_A [(h0, .inr (10, [.ref h1, .ref h2, .ref h3, .ref h4, .ref h5, .ref h6, .int 0, .int 1, .int 0, .int 0, .int 0, .long 0])), (h1, .inl (y0, 2501, .inl f0))] sz) := by
  refine Met.ofW (cc := cX10_kind) (maxL := 1) (ret := (some .int)) (by decide) rfl ?_
  intro p e s m args below meth c s₁ B hml hv
  obtain ⟨rfl, hsz, hP, hK, hD0⟩ := hv
  have hx := B.exec
  have hb := B.bytes
  have hr := B.returns
  have hts0 := atoms_spec (ws := Cond.code yX10_kind cX10_kind 1 (some .int) :: lw_G) B.pre
  have hG : ∀ w ∈ lw_G, w.before _ s = true := fun w h => hts0 w (List.mem_cons_of_mem _ h)
  have hown : s.vm.findClass RX10 = some m.cls := findClass_of_methodNamed B.named
  have hlocks := B.notSynchronized
  subst hsz
  have hD := hD0.self (sz := s.heap.size)
  generalize hAe : va_A [(h0, .inr (10, [.ref h1, .ref h2, .ref h3, .ref h4, .ref h5, .ref h6, .int 0, .int 1, .int 0, .int 0, .int 0, .long 0])), (h1, .inl (y0, 2501, .inl f0))] s.heap.size = A at hD ⊢
  have hA : ∀ q : Nat, s.heap.size ≤ q → A q := fun q h => by rw [← hAe]; exact Or.inr h
  have hS : va_S A s.heap s.heap [] := va_S.rf
  have hP : va_P (dC, dI) vwCl [(h0, .inr (10, [.ref h1, .ref h2, .ref h3, .ref h4, .ref h5, .ref h6, .int 0, .int 1, .int 0, .int 0, .int 0, .long 0])), (h1, .inl (y0, 2501, .inl f0))] s.heap := hP
  have hl := lv_entry ([.ref h0]) (n := 1) (Nat.le_of_ble_eq_true rfl)
  rw [lg_entry_eq]
  generalize (lg_sl ([.ref h0]) ++ List.replicate (1 - (lg_sl ([.ref h0])).length) Slot.unset).toArray = ls at hl ⊢
  have hl : lv_has ls 1 [(0, .ref h0)] := hl
  refine lv_aload_n hx hb dX10_kind_0 rfl (lv_at hl 0 rfl) ?_
  refine va_get (D := (dC, dI)) (ci := 10) (v := .int 0) (C := RX10) (T := TX10) (N := 12) hx hb hG inGX10 hown hK hP 0 rfl rfl 8 (by decide) (hG _ wd_291) (fun _ h9 => h9) rfl dX10_kind_1 ?_
  refine lv_sipush (v := 2501) hx hb dX10_kind_4 (by decide) ?_
  refine lv_icmp_ge (tgt := 22) hx hb dX10_kind_7 (by decide) (fun c => absurd c (by decide)) (fun _ => ?_)
  refine lv_aload_n hx hb dX10_kind_10 rfl (lv_at hl 0 rfl) ?_
  refine va_get (D := (dC, dI)) (ci := 10) (v := .ref h1) (C := RX10) (T := TX10) (N := 12) hx hb hG inGX10 hown hK hP 0 rfl rfl 0 (by decide) (hG _ wd_283) (fun _ h9 => h9) rfl dX10_kind_11 ?_
  refine lv_aload_n hx hb dX10_kind_14 rfl (lv_at hl 0 rfl) ?_
  refine va_get (D := (dC, dI)) (ci := 10) (v := .int 0) (C := RX10) (T := TX10) (N := 12) hx hb hG inGX10 hown hK hP 0 rfl rfl 8 (by decide) (hG _ wd_291) (fun _ h9 => h9) rfl dX10_kind_15 ?_
  refine va_iald hx hb hK hP 1 0 rfl rfl (iv_in (by decide : iv 0 0 0) (by decide) (by decide) : vp_in 0 2501) dX10_kind_18 ?_
  refine lv_val (y := 0) (iv_pt (if0 _) (by decide : iv 0 0 0)) ?_
  refine lv_goto (tgt := 23) hx hb dX10_kind_19 (by decide) ?_
  have hP9 := hP.sub (ws' := [(h0, .inr (10, [.ref h1, .ref h2, .ref h3, .ref h4, .ref h5, .ref h6, .int 0, .int 1, .int 0, .int 0, .int 0, .long 0])), (h1, .inl (y0, 2501, .inl f0))]) [0, 1] rfl
  have hD9 := hD.sub (ws' := [(h0, .inr (10, [.ref h1, .ref h2, .ref h3, .ref h4, .ref h5, .ref h6, .int 0, .int 1, .int 0, .int 0, .int 0, .long 0])), (h1, .inl (y0, 2501, .inl f0))]) [0, 1] (by decide) rfl
  have hK9 := hK.sub (tys' := [(y0, .int)]) [0] rfl
  exact W.iret (v := 0) hx hb hr (fun t ht hW => ⟨⟨0, (), rfl, ⟨rfl, trivial⟩, by rw [ht]; exact hP9, va_K.moved hW.alike hK9, hD9⟩, hS.F ht⟩) hS.2.2 dX10_kind_23
