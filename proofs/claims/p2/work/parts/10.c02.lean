set_option maxHeartbeats 100000000 in
set_option maxRecDepth 100000 in
theorem cX11_putNumber_1 (l : Launch) (dC : Nat → ClassId) (dI : Nat → Nat → Nat) (h0 h1 h2 h3 h4 h5 : Nat) (y0 : ClassId) (sz : Nat) (x0 x1 x2 : Int32) (f0 : Nat → Int32) (ix1 : iv x1 0 2596) : Met l yX11_putNumber (Cond.code yX11_putNumber cX11_putNumber 3 none :: lw_G) ({ frames := 0, cells := 0, slots := 0, locals := 0 }) (va_Pc [.ref h0, .int x0] (fun U => U.heap.size = sz ∧ va_P (dC, dI) vwCl [(h0, .inr (11, [.ref h1, .ref h2, .ref h3, .ref h4, .ref h5, .int x1, .int x2])), (h1, .inl (y0, 2600, .inl f0))] U.heap ∧ va_K (dC, dI) vwCl [(y0, .int)] U ∧ va_D (fun _ => True) [(h0, .inr (11, [.ref h1, .ref h2, .ref h3, .ref h4, .ref h5, .int x1, .int x2])), (h1, .inl (y0, 2600, .inl f0))])) (va_Qv (fun (u : Int32 × (Nat → Int32)) => u.1.toInt = x1.toInt + 4 ∧ iv u.1 4 2600 ∧ True) (fun (u : Int32 × (Nat → Int32)) (t : State) => va_P (dC, dI) vwCl [(h0, .inr (11, [.ref h1, .ref h2, .ref h3, .ref h4, .ref h5, .int u.1, .int x2])), (h1, .inl (y0, 2600, .inl u.2))] t.heap ∧ va_K (dC, dI) vwCl [(y0, .int)] t ∧ va_D (va_A [(h0, .inr (11, [.ref h1, .ref h2, .ref h3, .ref h4, .ref h5, .int x1, .int x2])), (h1, .inl (y0, 2600, .inl f0))] sz) [(h0, .inr (11, [.ref h1, .ref h2, .ref h3, .ref h4, .ref h5, .int u.1, .int x2])), (h1, .inl (y0, 2600, .inl u.2))]) (va_A [(h0, .inr (11, [.ref h1, .ref h2, .ref h3, .ref h4, .ref h5, .int x1, .int x2])), (h1, .inl (y0, 2600, .inl f0))] sz)) 0 0 (va_A [(h0, .inr (11, [.ref h1, .ref h2, .ref h3, .ref h4, .ref h5, .int x1, .int x2])), (h1, .inl (y0, 2600, .inl f0))] sz) := by
  refine Met.ofW (cc := cX11_putNumber) (maxL := 3) (ret := none) (by decide) rfl ?_
  intro p e s m args below meth c s₁ B hml hv
  obtain ⟨rfl, hsz, hP, hK, hD0⟩ := hv
  have hx := B.exec
  have hb := B.bytes
  have hr := B.returns
  have hts0 := atoms_spec (ws := Cond.code yX11_putNumber cX11_putNumber 3 none :: lw_G) B.pre
  have hG : ∀ w ∈ lw_G, w.before _ s = true := fun w h => hts0 w (List.mem_cons_of_mem _ h)
  have hown : s.vm.findClass RX11 = some m.cls := findClass_of_methodNamed B.named
  have hlocks := B.notSynchronized
  subst hsz
  have hD := hD0.self (sz := s.heap.size)
  generalize hAe : va_A [(h0, .inr (11, [.ref h1, .ref h2, .ref h3, .ref h4, .ref h5, .int x1, .int x2])), (h1, .inl (y0, 2600, .inl f0))] s.heap.size = A at hD ⊢
  have hA : ∀ q : Nat, s.heap.size ≤ q → A q := fun q h => by rw [← hAe]; exact Or.inr h
  have hS : va_S A s.heap s.heap [] := va_S.rf
  have hP : va_P (dC, dI) vwCl [(h0, .inr (11, [.ref h1, .ref h2, .ref h3, .ref h4, .ref h5, .int x1, .int x2])), (h1, .inl (y0, 2600, .inl f0))] s.heap := hP
  have hl := lv_entry ([.ref h0, .int x0]) (n := 3) (Nat.le_of_ble_eq_true rfl)
  rw [lg_entry_eq]
  generalize (lg_sl ([.ref h0, .int x0]) ++ List.replicate (3 - (lg_sl ([.ref h0, .int x0])).length) Slot.unset).toArray = ls at hl ⊢
  have hl : lv_has ls 3 [(0, .ref h0), (1, .int x0)] := hl
  generalize ([.ref h0, .int x0] : List Value).toArray = ar at hG ⊢
  refine wq (fun Q hQ => ?_)
  refine lv_bipush (v := 24) hx hb dX11_putNumber_0 (by decide) ?_
  refine lv_istore_n (lv' := [(2, .int 24), (0, .ref h0), (1, .int x0)]) hx hb dX11_putNumber_2 rfl hl (by decide) rfl (fun ls hl => ?_)
  refine lv_iload_n hx hb dX11_putNumber_3 rfl (lv_at hl 0 rfl) ?_
  refine lv_if_lt (tgt := 49) hx hb dX11_putNumber_4 (by decide) (fun c => absurd c (by decide)) (fun _ => ?_)
  refine lv_aload_n hx hb dX11_putNumber_7 rfl (lv_at hl 1 rfl) ?_
  refine va_get (D := (dC, dI)) (ci := 11) (v := .int x1) (C := RX11) (T := TX11) (N := 7) hx hb hG inGX11 hown hK hP 0 rfl rfl 5 (by decide) (hG _ wd_400) (fun _ h9 => h9) rfl dX11_putNumber_8 ?_
  refine lv_sipush (v := 2600) hx hb dX11_putNumber_11 (by decide) ?_
  refine lv_icmp_ge (tgt := 43) hx hb dX11_putNumber_14 (by decide) (fun c => absurd c (iv_nle (by decide : iv 2600 2600 2600) ix1 (by decide))) (fun _ => ?_)
  refine lv_aload_n hx hb dX11_putNumber_17 rfl (lv_at hl 1 rfl) ?_
  refine va_get (D := (dC, dI)) (ci := 11) (v := .ref h1) (C := RX11) (T := TX11) (N := 7) hx hb hG inGX11 hown hK hP 0 rfl rfl 0 (by decide) (hG _ wd_395) (fun _ h9 => h9) rfl dX11_putNumber_18 ?_
  refine lv_aload_n hx hb dX11_putNumber_21 rfl (lv_at hl 1 rfl) ?_
  refine va_get (D := (dC, dI)) (ci := 11) (v := .int x1) (C := RX11) (T := TX11) (N := 7) hx hb hG inGX11 hown hK hP 0 rfl rfl 5 (by decide) (hG _ wd_400) (fun _ h9 => h9) rfl dX11_putNumber_22 ?_
  refine lv_iload_n hx hb dX11_putNumber_25 rfl (lv_at hl 2 rfl) ?_
  refine lv_iload_n hx hb dX11_putNumber_26 rfl (lv_at hl 0 rfl) ?_
  refine lv_iushr (v := _) hx hb dX11_putNumber_27 rfl ?_
  refine lv_topi (fun v1 ev1 => ?_)
  refine lv_sipush (v := 255) hx hb dX11_putNumber_28 (by decide) ?_
  refine lv_iand hx hb dX11_putNumber_31 ?_
  refine lv_topi (fun v2 ev2 => ?_)
  have iv2 : iv v2 0 255 := iv_eq ev2 (iv_and (x := v1) (iv_w (by decide : iv 255 255 255) (by decide) (by decide) : iv 255 0 255))
  refine va_iast hx hb hK hP hD hS 1 0 rfl rfl (iv_in ix1 (by decide) (by decide) : vp_in x1 2600) dX11_putNumber_32 (fun H locs hP hD hS => ?_)
  obtain ⟨nf3, enf3⟩ : ∃ z, z = upd f0 x1.toNatClampNeg v2 := ⟨_, rfl⟩
  obtain ⟨hP, hD⟩ := nv_eq (ws' := [(h0, .inr (11, [.ref h1, .ref h2, .ref h3, .ref h4, .ref h5, .int x1, .int x2])), (h1, .inl (y0, 2600, .inl nf3))]) hP hD (by subst enf3; rfl)
  refine lv_aload_n hx hb dX11_putNumber_33 rfl (lv_at hl 1 rfl) ?_
  refine lv_dup hx hb dX11_putNumber_34 rfl ?_
  refine va_get (D := (dC, dI)) (ci := 11) (v := .int x1) (C := RX11) (T := TX11) (N := 7) hx hb hG inGX11 hown hK hP 0 rfl rfl 5 (by decide) (hG _ wd_400) (fun _ h9 => h9) rfl dX11_putNumber_35 ?_
  refine lv_iconst (v := 1) hx hb dX11_putNumber_38 (by decide) ?_
  refine lv_iadd hx hb dX11_putNumber_39 ?_
  refine lv_topi (fun v4 ev4 => ?_)
  have iv4 : iv v4 1 2597 := iv_eq ev4 (iv_add ix1 (by decide : iv 1 1 1) (by decide) (by decide))
  have tv4 : v4.toInt = x1.toInt + 1 := iv_addT ev4 ix1 (by decide) (by decide) (by decide)
  refine va_put (D := (dC, dI)) (ci := 11) (v := .int v4) (ty := .int) (C := RX11) (T := TX11) (N := 7) hx hb hG inGX11 tyX11 tyX11_ok nmX11 hown hK hP hD hS 0 rfl rfl 5 (by decide) (hG _ wd_400) (fun _ h9 => h9) rfl (by decide +kernel) rfl rfl (Nat.le_of_ble_eq_true rfl) dX11_putNumber_40 (fun H locs hP hD hS => ?_)
  obtain ⟨hP, hD⟩ := nv_eq (ws' := [(h0, .inr (11, [.ref h1, .ref h2, .ref h3, .ref h4, .ref h5, .int v4, .int x2])), (h1, .inl (y0, 2600, .inl nf3))]) hP hD rfl
  refine lv_iinc (v := 16) (lv' := [(2, .int 16), (0, .ref h0), (1, .int x0)]) hx hb dX11_putNumber_43 hl (k := 0) rfl (by decide) (by decide) rfl (fun ls hl => ?_)
  refine lv_goto (tgt := 3) hx hb dX11_putNumber_46 (by decide) ?_
  refine lv_iload_n hx hb dX11_putNumber_3 rfl (lv_at hl 0 rfl) ?_
  refine lv_if_lt (tgt := 49) hx hb dX11_putNumber_4 (by decide) (fun c => absurd c (by decide)) (fun _ => ?_)
  refine lv_aload_n hx hb dX11_putNumber_7 rfl (lv_at hl 1 rfl) ?_
  refine va_get (D := (dC, dI)) (ci := 11) (v := .int v4) (C := RX11) (T := TX11) (N := 7) hx hb hG inGX11 hown hK hP 0 rfl rfl 5 (by decide) (hG _ wd_400) (fun _ h9 => h9) rfl dX11_putNumber_8 ?_
  refine lv_sipush (v := 2600) hx hb dX11_putNumber_11 (by decide) ?_
  refine lv_icmp_ge (tgt := 43) hx hb dX11_putNumber_14 (by decide) (fun c => absurd c (iv_nle (by decide : iv 2600 2600 2600) iv4 (by decide))) (fun _ => ?_)
  refine lv_aload_n hx hb dX11_putNumber_17 rfl (lv_at hl 1 rfl) ?_
  refine va_get (D := (dC, dI)) (ci := 11) (v := .ref h1) (C := RX11) (T := TX11) (N := 7) hx hb hG inGX11 hown hK hP 0 rfl rfl 0 (by decide) (hG _ wd_395) (fun _ h9 => h9) rfl dX11_putNumber_18 ?_
  refine lv_aload_n hx hb dX11_putNumber_21 rfl (lv_at hl 1 rfl) ?_
  refine va_get (D := (dC, dI)) (ci := 11) (v := .int v4) (C := RX11) (T := TX11) (N := 7) hx hb hG inGX11 hown hK hP 0 rfl rfl 5 (by decide) (hG _ wd_400) (fun _ h9 => h9) rfl dX11_putNumber_22 ?_
  refine lv_iload_n hx hb dX11_putNumber_25 rfl (lv_at hl 2 rfl) ?_
  refine lv_iload_n hx hb dX11_putNumber_26 rfl (lv_at hl 0 rfl) ?_
  refine lv_iushr (v := _) hx hb dX11_putNumber_27 rfl ?_
  refine lv_topi (fun v5 ev5 => ?_)
  refine lv_sipush (v := 255) hx hb dX11_putNumber_28 (by decide) ?_
  refine lv_iand hx hb dX11_putNumber_31 ?_
  refine lv_topi (fun v6 ev6 => ?_)
  have iv6 : iv v6 0 255 := iv_eq ev6 (iv_and (x := v5) (iv_w (by decide : iv 255 255 255) (by decide) (by decide) : iv 255 0 255))
  refine va_iast hx hb hK hP hD hS 1 0 rfl rfl (iv_in iv4 (by decide) (by decide) : vp_in v4 2600) dX11_putNumber_32 (fun H locs hP hD hS => ?_)
  obtain ⟨nf7, enf7⟩ : ∃ z, z = upd nf3 v4.toNatClampNeg v6 := ⟨_, rfl⟩
  obtain ⟨hP, hD⟩ := nv_eq (ws' := [(h0, .inr (11, [.ref h1, .ref h2, .ref h3, .ref h4, .ref h5, .int v4, .int x2])), (h1, .inl (y0, 2600, .inl nf7))]) hP hD (by subst enf7; rfl)
  refine lv_aload_n hx hb dX11_putNumber_33 rfl (lv_at hl 1 rfl) ?_
  refine lv_dup hx hb dX11_putNumber_34 rfl ?_
  refine va_get (D := (dC, dI)) (ci := 11) (v := .int v4) (C := RX11) (T := TX11) (N := 7) hx hb hG inGX11 hown hK hP 0 rfl rfl 5 (by decide) (hG _ wd_400) (fun _ h9 => h9) rfl dX11_putNumber_35 ?_
  refine lv_iconst (v := 1) hx hb dX11_putNumber_38 (by decide) ?_
  refine lv_iadd hx hb dX11_putNumber_39 ?_
  refine lv_topi (fun v8 ev8 => ?_)
  have iv8 : iv v8 2 2598 := iv_eq ev8 (iv_add iv4 (by decide : iv 1 1 1) (by decide) (by decide))
  have tv8 : v8.toInt = v4.toInt + 1 := iv_addT ev8 iv4 (by decide) (by decide) (by decide)
  refine va_put (D := (dC, dI)) (ci := 11) (v := .int v8) (ty := .int) (C := RX11) (T := TX11) (N := 7) hx hb hG inGX11 tyX11 tyX11_ok nmX11 hown hK hP hD hS 0 rfl rfl 5 (by decide) (hG _ wd_400) (fun _ h9 => h9) rfl (by decide +kernel) rfl rfl (Nat.le_of_ble_eq_true rfl) dX11_putNumber_40 (fun H locs hP hD hS => ?_)
  obtain ⟨hP, hD⟩ := nv_eq (ws' := [(h0, .inr (11, [.ref h1, .ref h2, .ref h3, .ref h4, .ref h5, .int v8, .int x2])), (h1, .inl (y0, 2600, .inl nf7))]) hP hD rfl
  refine lv_iinc (v := 8) (lv' := [(2, .int 8), (0, .ref h0), (1, .int x0)]) hx hb dX11_putNumber_43 hl (k := 0) rfl (by decide) (by decide) rfl (fun ls hl => ?_)
  refine lv_goto (tgt := 3) hx hb dX11_putNumber_46 (by decide) ?_
  refine lv_iload_n hx hb dX11_putNumber_3 rfl (lv_at hl 0 rfl) ?_
  refine lv_if_lt (tgt := 49) hx hb dX11_putNumber_4 (by decide) (fun c => absurd c (by decide)) (fun _ => ?_)
  refine lv_aload_n hx hb dX11_putNumber_7 rfl (lv_at hl 1 rfl) ?_
  refine va_get (D := (dC, dI)) (ci := 11) (v := .int v8) (C := RX11) (T := TX11) (N := 7) hx hb hG inGX11 hown hK hP 0 rfl rfl 5 (by decide) (hG _ wd_400) (fun _ h9 => h9) rfl dX11_putNumber_8 ?_
  refine lv_sipush (v := 2600) hx hb dX11_putNumber_11 (by decide) ?_
  refine lv_icmp_ge (tgt := 43) hx hb dX11_putNumber_14 (by decide) (fun c => absurd c (iv_nle (by decide : iv 2600 2600 2600) iv8 (by decide))) (fun _ => ?_)
  refine lv_aload_n hx hb dX11_putNumber_17 rfl (lv_at hl 1 rfl) ?_
  refine va_get (D := (dC, dI)) (ci := 11) (v := .ref h1) (C := RX11) (T := TX11) (N := 7) hx hb hG inGX11 hown hK hP 0 rfl rfl 0 (by decide) (hG _ wd_395) (fun _ h9 => h9) rfl dX11_putNumber_18 ?_
  refine lv_aload_n hx hb dX11_putNumber_21 rfl (lv_at hl 1 rfl) ?_
  refine va_get (D := (dC, dI)) (ci := 11) (v := .int v8) (C := RX11) (T := TX11) (N := 7) hx hb hG inGX11 hown hK hP 0 rfl rfl 5 (by decide) (hG _ wd_400) (fun _ h9 => h9) rfl dX11_putNumber_22 ?_
  refine lv_iload_n hx hb dX11_putNumber_25 rfl (lv_at hl 2 rfl) ?_
  refine lv_iload_n hx hb dX11_putNumber_26 rfl (lv_at hl 0 rfl) ?_
  refine lv_iushr (v := _) hx hb dX11_putNumber_27 rfl ?_
  refine lv_topi (fun v9 ev9 => ?_)
  refine lv_sipush (v := 255) hx hb dX11_putNumber_28 (by decide) ?_
  refine lv_iand hx hb dX11_putNumber_31 ?_
  refine lv_topi (fun v10 ev10 => ?_)
  have iv10 : iv v10 0 255 := iv_eq ev10 (iv_and (x := v9) (iv_w (by decide : iv 255 255 255) (by decide) (by decide) : iv 255 0 255))
  refine va_iast hx hb hK hP hD hS 1 0 rfl rfl (iv_in iv8 (by decide) (by decide) : vp_in v8 2600) dX11_putNumber_32 (fun H locs hP hD hS => ?_)
  obtain ⟨nf11, enf11⟩ : ∃ z, z = upd nf7 v8.toNatClampNeg v10 := ⟨_, rfl⟩
  obtain ⟨hP, hD⟩ := nv_eq (ws' := [(h0, .inr (11, [.ref h1, .ref h2, .ref h3, .ref h4, .ref h5, .int v8, .int x2])), (h1, .inl (y0, 2600, .inl nf11))]) hP hD (by subst enf11; rfl)
  refine lv_aload_n hx hb dX11_putNumber_33 rfl (lv_at hl 1 rfl) ?_
  refine lv_dup hx hb dX11_putNumber_34 rfl ?_
  refine va_get (D := (dC, dI)) (ci := 11) (v := .int v8) (C := RX11) (T := TX11) (N := 7) hx hb hG inGX11 hown hK hP 0 rfl rfl 5 (by decide) (hG _ wd_400) (fun _ h9 => h9) rfl dX11_putNumber_35 ?_
  refine lv_iconst (v := 1) hx hb dX11_putNumber_38 (by decide) ?_
  refine lv_iadd hx hb dX11_putNumber_39 ?_
  refine lv_topi (fun v12 ev12 => ?_)
  have iv12 : iv v12 3 2599 := iv_eq ev12 (iv_add iv8 (by decide : iv 1 1 1) (by decide) (by decide))
  have tv12 : v12.toInt = v8.toInt + 1 := iv_addT ev12 iv8 (by decide) (by decide) (by decide)
  refine va_put (D := (dC, dI)) (ci := 11) (v := .int v12) (ty := .int) (C := RX11) (T := TX11) (N := 7) hx hb hG inGX11 tyX11 tyX11_ok nmX11 hown hK hP hD hS 0 rfl rfl 5 (by decide) (hG _ wd_400) (fun _ h9 => h9) rfl (by decide +kernel) rfl rfl (Nat.le_of_ble_eq_true rfl) dX11_putNumber_40 (fun H locs hP hD hS => ?_)
  obtain ⟨hP, hD⟩ := nv_eq (ws' := [(h0, .inr (11, [.ref h1, .ref h2, .ref h3, .ref h4, .ref h5, .int v12, .int x2])), (h1, .inl (y0, 2600, .inl nf11))]) hP hD rfl
  refine lv_iinc (v := 0) (lv' := [(2, .int 0), (0, .ref h0), (1, .int x0)]) hx hb dX11_putNumber_43 hl (k := 0) rfl (by decide) (by decide) rfl (fun ls hl => ?_)
  refine lv_goto (tgt := 3) hx hb dX11_putNumber_46 (by decide) ?_
  refine lv_iload_n hx hb dX11_putNumber_3 rfl (lv_at hl 0 rfl) ?_
  refine lv_if_lt (tgt := 49) hx hb dX11_putNumber_4 (by decide) (fun c => absurd c (by decide)) (fun _ => ?_)
  refine lv_aload_n hx hb dX11_putNumber_7 rfl (lv_at hl 1 rfl) ?_
  refine va_get (D := (dC, dI)) (ci := 11) (v := .int v12) (C := RX11) (T := TX11) (N := 7) hx hb hG inGX11 hown hK hP 0 rfl rfl 5 (by decide) (hG _ wd_400) (fun _ h9 => h9) rfl dX11_putNumber_8 ?_
  refine lv_sipush (v := 2600) hx hb dX11_putNumber_11 (by decide) ?_
  refine lv_icmp_ge (tgt := 43) hx hb dX11_putNumber_14 (by decide) (fun c => absurd c (iv_nle (by decide : iv 2600 2600 2600) iv12 (by decide))) (fun _ => ?_)
  refine lv_aload_n hx hb dX11_putNumber_17 rfl (lv_at hl 1 rfl) ?_
  refine va_get (D := (dC, dI)) (ci := 11) (v := .ref h1) (C := RX11) (T := TX11) (N := 7) hx hb hG inGX11 hown hK hP 0 rfl rfl 0 (by decide) (hG _ wd_395) (fun _ h9 => h9) rfl dX11_putNumber_18 ?_
  refine lv_aload_n hx hb dX11_putNumber_21 rfl (lv_at hl 1 rfl) ?_
  refine va_get (D := (dC, dI)) (ci := 11) (v := .int v12) (C := RX11) (T := TX11) (N := 7) hx hb hG inGX11 hown hK hP 0 rfl rfl 5 (by decide) (hG _ wd_400) (fun _ h9 => h9) rfl dX11_putNumber_22 ?_
  refine lv_iload_n hx hb dX11_putNumber_25 rfl (lv_at hl 2 rfl) ?_
  refine lv_iload_n hx hb dX11_putNumber_26 rfl (lv_at hl 0 rfl) ?_
  refine lv_iushr (v := _) hx hb dX11_putNumber_27 rfl ?_
  refine lv_topi (fun v13 ev13 => ?_)
  refine lv_sipush (v := 255) hx hb dX11_putNumber_28 (by decide) ?_
  refine lv_iand hx hb dX11_putNumber_31 ?_
  refine lv_topi (fun v14 ev14 => ?_)
  have iv14 : iv v14 0 255 := iv_eq ev14 (iv_and (x := v13) (iv_w (by decide : iv 255 255 255) (by decide) (by decide) : iv 255 0 255))
  refine va_iast hx hb hK hP hD hS 1 0 rfl rfl (iv_in iv12 (by decide) (by decide) : vp_in v12 2600) dX11_putNumber_32 (fun H locs hP hD hS => ?_)
  obtain ⟨nf15, enf15⟩ : ∃ z, z = upd nf11 v12.toNatClampNeg v14 := ⟨_, rfl⟩
  obtain ⟨hP, hD⟩ := nv_eq (ws' := [(h0, .inr (11, [.ref h1, .ref h2, .ref h3, .ref h4, .ref h5, .int v12, .int x2])), (h1, .inl (y0, 2600, .inl nf15))]) hP hD (by subst enf15; rfl)
  refine lv_aload_n hx hb dX11_putNumber_33 rfl (lv_at hl 1 rfl) ?_
  refine lv_dup hx hb dX11_putNumber_34 rfl ?_
  refine va_get (D := (dC, dI)) (ci := 11) (v := .int v12) (C := RX11) (T := TX11) (N := 7) hx hb hG inGX11 hown hK hP 0 rfl rfl 5 (by decide) (hG _ wd_400) (fun _ h9 => h9) rfl dX11_putNumber_35 ?_
  refine lv_iconst (v := 1) hx hb dX11_putNumber_38 (by decide) ?_
  refine lv_iadd hx hb dX11_putNumber_39 ?_
  refine lv_topi (fun v16 ev16 => ?_)
  have iv16 : iv v16 4 2600 := iv_eq ev16 (iv_add iv12 (by decide : iv 1 1 1) (by decide) (by decide))
  have tv16 : v16.toInt = v12.toInt + 1 := iv_addT ev16 iv12 (by decide) (by decide) (by decide)
  refine va_put (D := (dC, dI)) (ci := 11) (v := .int v16) (ty := .int) (C := RX11) (T := TX11) (N := 7) hx hb hG inGX11 tyX11 tyX11_ok nmX11 hown hK hP hD hS 0 rfl rfl 5 (by decide) (hG _ wd_400) (fun _ h9 => h9) rfl (by decide +kernel) rfl rfl (Nat.le_of_ble_eq_true rfl) dX11_putNumber_40 (fun H locs hP hD hS => ?_)
  obtain ⟨hP, hD⟩ := nv_eq (ws' := [(h0, .inr (11, [.ref h1, .ref h2, .ref h3, .ref h4, .ref h5, .int v16, .int x2])), (h1, .inl (y0, 2600, .inl nf15))]) hP hD rfl
  refine lv_iinc (v := (-8)) (lv' := [(2, .int (-8)), (0, .ref h0), (1, .int x0)]) hx hb dX11_putNumber_43 hl (k := 0) rfl (by decide) (by decide) rfl (fun ls hl => ?_)
  refine lv_goto (tgt := 3) hx hb dX11_putNumber_46 (by decide) ?_
  refine lv_iload_n hx hb dX11_putNumber_3 rfl (lv_at hl 0 rfl) ?_
  refine lv_if_lt (tgt := 49) hx hb dX11_putNumber_4 (by decide) (fun _ => ?_) (fun c => absurd (by decide) c)
  rw [hQ]
  obtain ⟨hP9, hD9⟩ := nv_sub2 (wc := [(h0, .inr (11, [.ref h1, .ref h2, .ref h3, .ref h4, .ref h5, .int v16, .int x2])), (h1, .inl (y0, 2600, .inl nf15))]) hP hD [0, 1] (by decide) rfl
  have hK9 := hK.sub (tys' := [(y0, .int)]) [0] rfl
  exact W.vret hx hb hr (fun t ht hW => ⟨⟨(v16, nf15), rfl, ⟨(show v16.toInt = x1.toInt + 4 by omega), iv_w iv16 (by decide) (by decide), trivial⟩, by rw [ht]; exact hP9, va_K.moved hW.alike hK9, hD9⟩, hS.F ht⟩) hS.2.2 dX11_putNumber_49
set_option maxHeartbeats 100000000 in
set_option maxRecDepth 100000 in
theorem cX11_feed_1 (l : Launch) (dC : Nat → ClassId) (dI : Nat → Nat → Nat) (h0 h1 h2 h3 h4 h5 : Nat) (y0 : ClassId) (sz : Nat) (x0 x1 x2 x3 x4 x5 x6 : Int32) (f0 : Nat → Int32) (ix5 : iv x5 0 2600) : Met l yX11_feed (Cond.code yX11_feed cX11_feed 6 (some .int) :: lw_G) ({ frames := 1, cells := 0, slots := 0, locals := 22 }) (va_Pc [.ref h0, .int x0, .int x1, .int x2, .int x3, .int x4] (fun U => U.heap.size = sz ∧ va_P (dC, dI) vwCl [(h0, .inr (11, [.ref h1, .ref h2, .ref h3, .ref h4, .ref h5, .int x5, .int x6])), (h1, .inl (y0, 2600, .inl f0))] U.heap ∧ va_K (dC, dI) vwCl [(y0, .int)] U ∧ va_D (fun _ => True) [(h0, .inr (11, [.ref h1, .ref h2, .ref h3, .ref h4, .ref h5, .int x5, .int x6])), (h1, .inl (y0, 2600, .inl f0))])) (va_Qi (fun (r : Int32) (u : Int32 × (Nat → Int32)) => iv r (-1) 2600 ∧ iv u.1 20 2600 ∧ ((x5.toInt ≤ 2580 ∧ r.toInt = x5.toInt + 20 ∧ u.1.toInt = x5.toInt + 20) ∨ (2581 ≤ x5.toInt ∧ r.toInt = -1 ∧ u.1.toInt = x5.toInt)) ∧ True) (fun (u : Int32 × (Nat → Int32)) (t : State) => va_P (dC, dI) vwCl [(h0, .inr (11, [.ref h1, .ref h2, .ref h3, .ref h4, .ref h5, .int u.1, .int x6])), (h1, .inl (y0, 2600, .inl u.2))] t.heap ∧ va_K (dC, dI) vwCl [(y0, .int)] t ∧ va_D (va_A [(h0, .inr (11, [.ref h1, .ref h2, .ref h3, .ref h4, .ref h5, .int x5, .int x6])), (h1, .inl (y0, 2600, .inl f0))] sz) [(h0, .inr (11, [.ref h1, .ref h2, .ref h3, .ref h4, .ref h5, .int u.1, .int x6])), (h1, .inl (y0, 2600, .inl u.2))]) (va_A [(h0, .inr (11, [.ref h1, .ref h2, .ref h3, .ref h4, .ref h5, .int x5, .int x6])), (h1, .inl (y0, 2600, .inl f0))] sz)) 0 0 (va_A [(h0, .inr (11, [.ref h1, .ref h2, .ref h3, .ref h4, .ref h5, .int x5, .int x6])), (h1, .inl (y0, 2600, .inl f0))] sz) := by
  refine Met.ofW (cc := cX11_feed) (maxL := 6) (ret := (some .int)) (by decide) rfl ?_
  intro p e s m args below meth c s₁ B hml hv
  obtain ⟨rfl, hsz, hP, hK, hD0⟩ := hv
  have hx := B.exec
  have hb := B.bytes
  have hr := B.returns
  have hts0 := atoms_spec (ws := Cond.code yX11_feed cX11_feed 6 (some .int) :: lw_G) B.pre
  have hG : ∀ w ∈ lw_G, w.before _ s = true := fun w h => hts0 w (List.mem_cons_of_mem _ h)
  have hown : s.vm.findClass RX11 = some m.cls := findClass_of_methodNamed B.named
  have hlocks := B.notSynchronized
  subst hsz
  have hD := hD0.self (sz := s.heap.size)
  generalize hAe : va_A [(h0, .inr (11, [.ref h1, .ref h2, .ref h3, .ref h4, .ref h5, .int x5, .int x6])), (h1, .inl (y0, 2600, .inl f0))] s.heap.size = A at hD ⊢
  have hA : ∀ q : Nat, s.heap.size ≤ q → A q := fun q h => by rw [← hAe]; exact Or.inr h
  have hS : va_S A s.heap s.heap [] := va_S.rf
  have hP : va_P (dC, dI) vwCl [(h0, .inr (11, [.ref h1, .ref h2, .ref h3, .ref h4, .ref h5, .int x5, .int x6])), (h1, .inl (y0, 2600, .inl f0))] s.heap := hP
  have hl := lv_entry ([.ref h0, .int x0, .int x1, .int x2, .int x3, .int x4]) (n := 6) (Nat.le_of_ble_eq_true rfl)
  rw [lg_entry_eq]
  generalize (lg_sl ([.ref h0, .int x0, .int x1, .int x2, .int x3, .int x4]) ++ List.replicate (6 - (lg_sl ([.ref h0, .int x0, .int x1, .int x2, .int x3, .int x4])).length) Slot.unset).toArray = ls at hl ⊢
  have hl : lv_has ls 6 [(0, .ref h0), (1, .int x0), (2, .int x1), (3, .int x2), (4, .int x3), (5, .int x4)] := hl
  generalize ([.ref h0, .int x0, .int x1, .int x2, .int x3, .int x4] : List Value).toArray = ar at hG ⊢
  refine wq (fun Q hQ => ?_)
  refine lv_aload_n hx hb dX11_feed_0 rfl (lv_at hl 0 rfl) ?_
  refine va_get (D := (dC, dI)) (ci := 11) (v := .int x5) (C := RX11) (T := TX11) (N := 7) hx hb hG inGX11 hown hK hP 0 rfl rfl 5 (by decide) (hG _ wd_400) (fun _ h9 => h9) rfl dX11_feed_1 ?_
  refine lv_bipush (v := 20) hx hb dX11_feed_4 (by decide) ?_
  refine lv_iadd hx hb dX11_feed_6 ?_
  refine lv_topi (fun v1 ev1 => ?_)
  have iv1 : iv v1 20 2620 := iv_eq ev1 (iv_add ix5 (by decide : iv 20 20 20) (by decide) (by decide))
  have tv1 : v1.toInt = x5.toInt + 20 := iv_addT ev1 ix5 (by decide) (by decide) (by decide)
  refine lv_sipush (v := 2600) hx hb dX11_feed_7 (by decide) ?_
  refine lv_icmp_le (tgt := 15) hx hb dX11_feed_10 (by decide) (fun c2 => ?_) (fun c2 => ?_)
  · skip
    have j3 : iv v1 20 2600 := iv_leL iv1 (by decide : iv 2600 2600 2600) c2 (by decide)
    have j4 : iv x5 0 2580 := by have q9 := ix5; exact ⟨by omega, by omega⟩
    refine lv_aload_n hx hb dX11_feed_15 rfl (lv_at hl 0 rfl) ?_
    refine lv_iload_n hx hb dX11_feed_16 rfl (lv_at hl 1 rfl) ?_
    obtain ⟨hPc, hDc, hFc⟩ := nv_sub3 (wc := [(h0, .inr (11, [.ref h1, .ref h2, .ref h3, .ref h4, .ref h5, .int x5, .int x6])), (h1, .inl (y0, 2600, .inl f0))]) hP hD hS hA [0, 1] (by decide) rfl
    have hKc := hK.sub (tys' := [(y0, .int)]) [0] rfl
    refine va_callv (va_runV (As := [.int x0]) (rest := []) ⟨hx, hb, hml, hown, hG⟩ (cX11_putNumber_1 l dC dI h0 h1 h2 h3 h4 h5 y0 s.heap.size x0 x5 x6 f0 (iv_w j4 (by decide) (by decide))) (cwV 1 hG (gV wd_421 wd_423 wp_0 wd_1 wd_424) rfl rfl rfl (by decide +kernel) ⟨Nat.le_of_ble_eq_true rfl, Nat.le_of_ble_eq_true rfl⟩) ⟨fun a U g mk q => by obtain ⟨q0, q1, qP, qK, qD⟩ := q; exact ⟨q0, q1, qP, va_K.moved (u := U) (U := U.calling g mk a) (Vm.Alike.refl U.vm) qK, qD⟩, va_recv hKc hPc (ci := 11) (q0 := 0) rfl rfl, fun U hU hW => ⟨rfl, by rw [hU], by rw [hU]; exact hPc, va_K.moved hW.alike hKc, hDc.weaken (fun _ _ _ _ => trivial)⟩⟩ rfl rfl hl.1 rfl (lv_room (Nat.le_of_ble_eq_true rfl)) dX11_feed_17 ⟨by decide, by decide⟩) hS (fun q _ h => hFc q h) hFc (fun u6 t H1 locs ht hvm hw hB hz1 hk1 hS => ?_)
    obtain ⟨u6_0, u6_1⟩ := u6
    have hw : u6_0.toInt = x5.toInt + 4 ∧ iv u6_0 4 2600 ∧ True := hw
    obtain ⟨lu6_0, iu6_0, -⟩ := hw
    have mu6_0 : iv u6_0 4 2584 := by have q9 := j4; exact ⟨by omega, by omega⟩
    obtain ⟨hP1, hK1, hD1⟩ := hB
    rw [ht] at hP1
    have hK1 := va_K.moved hvm.symm hK1
    obtain ⟨hP, hD⟩ := nv_join (wf := [(h0, .inr (11, [.ref h1, .ref h2, .ref h3, .ref h4, .ref h5, .int u6_0, .int x6])), (h1, .inl (y0, 2600, .inl u6_1))]) hP hD [0, 1] [] rfl rfl (by decide) (by decide) hk1 hFc hP1 hD1 rfl
    have hK := (hK.sub (tys' := []) [] rfl).app hK1
    generalize H1 = H at hP hS ⊢
    have hK : va_K (dC, dI) vwCl [(y0, .int)] s := hK
    refine lv_aload_n hx hb dX11_feed_20 rfl (lv_at hl 0 rfl) ?_
    refine lv_iload_n hx hb dX11_feed_21 rfl (lv_at hl 2 rfl) ?_
    obtain ⟨hPc, hDc, hFc⟩ := nv_sub3 (wc := [(h0, .inr (11, [.ref h1, .ref h2, .ref h3, .ref h4, .ref h5, .int u6_0, .int x6])), (h1, .inl (y0, 2600, .inl u6_1))]) hP hD hS hA [0, 1] (by decide) rfl
    have hKc := hK.sub (tys' := [(y0, .int)]) [0] rfl
    refine va_callv (va_runV (As := [.int x1]) (rest := []) ⟨hx, hb, hml, hown, hG⟩ (cX11_putNumber_1 l dC dI h0 h1 h2 h3 h4 h5 y0 H.size x1 u6_0 x6 u6_1 (iv_w mu6_0 (by decide) (by decide))) (cwV 1 hG (gV wd_421 wd_423 wp_0 wd_1 wd_424) rfl rfl rfl (by decide +kernel) ⟨Nat.le_of_ble_eq_true rfl, Nat.le_of_ble_eq_true rfl⟩) ⟨fun a U g mk q => by obtain ⟨q0, q1, qP, qK, qD⟩ := q; exact ⟨q0, q1, qP, va_K.moved (u := U) (U := U.calling g mk a) (Vm.Alike.refl U.vm) qK, qD⟩, va_recv hKc hPc (ci := 11) (q0 := 0) rfl rfl, fun U hU hW => ⟨rfl, by rw [hU], by rw [hU]; exact hPc, va_K.moved hW.alike hKc, hDc.weaken (fun _ _ _ _ => trivial)⟩⟩ rfl rfl hl.1 rfl (lv_room (Nat.le_of_ble_eq_true rfl)) dX11_feed_22 ⟨by decide, by decide⟩) hS (fun q _ h => hFc q h) hFc (fun u8 t H1 locs ht hvm hw hB hz1 hk1 hS => ?_)
    obtain ⟨u8_0, u8_1⟩ := u8
    have hw : u8_0.toInt = u6_0.toInt + 4 ∧ iv u8_0 4 2600 ∧ True := hw
    obtain ⟨lu8_0, iu8_0, -⟩ := hw
    have mu8_0 : iv u8_0 8 2588 := by have q9 := mu6_0; exact ⟨by omega, by omega⟩
    obtain ⟨hP1, hK1, hD1⟩ := hB
    rw [ht] at hP1
    have hK1 := va_K.moved hvm.symm hK1
    obtain ⟨hP, hD⟩ := nv_join (wf := [(h0, .inr (11, [.ref h1, .ref h2, .ref h3, .ref h4, .ref h5, .int u8_0, .int x6])), (h1, .inl (y0, 2600, .inl u8_1))]) hP hD [0, 1] [] rfl rfl (by decide) (by decide) hk1 hFc hP1 hD1 rfl
    have hK := (hK.sub (tys' := []) [] rfl).app hK1
    generalize H1 = H at hP hS ⊢
    have hK : va_K (dC, dI) vwCl [(y0, .int)] s := hK
    refine lv_aload_n hx hb dX11_feed_25 rfl (lv_at hl 0 rfl) ?_
    refine lv_iload_n hx hb dX11_feed_26 rfl (lv_at hl 3 rfl) ?_
    obtain ⟨hPc, hDc, hFc⟩ := nv_sub3 (wc := [(h0, .inr (11, [.ref h1, .ref h2, .ref h3, .ref h4, .ref h5, .int u8_0, .int x6])), (h1, .inl (y0, 2600, .inl u8_1))]) hP hD hS hA [0, 1] (by decide) rfl
    have hKc := hK.sub (tys' := [(y0, .int)]) [0] rfl
    refine va_callv (va_runV (As := [.int x2]) (rest := []) ⟨hx, hb, hml, hown, hG⟩ (cX11_putNumber_1 l dC dI h0 h1 h2 h3 h4 h5 y0 H.size x2 u8_0 x6 u8_1 (iv_w mu8_0 (by decide) (by decide))) (cwV 1 hG (gV wd_421 wd_423 wp_0 wd_1 wd_424) rfl rfl rfl (by decide +kernel) ⟨Nat.le_of_ble_eq_true rfl, Nat.le_of_ble_eq_true rfl⟩) ⟨fun a U g mk q => by obtain ⟨q0, q1, qP, qK, qD⟩ := q; exact ⟨q0, q1, qP, va_K.moved (u := U) (U := U.calling g mk a) (Vm.Alike.refl U.vm) qK, qD⟩, va_recv hKc hPc (ci := 11) (q0 := 0) rfl rfl, fun U hU hW => ⟨rfl, by rw [hU], by rw [hU]; exact hPc, va_K.moved hW.alike hKc, hDc.weaken (fun _ _ _ _ => trivial)⟩⟩ rfl rfl hl.1 rfl (lv_room (Nat.le_of_ble_eq_true rfl)) dX11_feed_27 ⟨by decide, by decide⟩) hS (fun q _ h => hFc q h) hFc (fun u10 t H1 locs ht hvm hw hB hz1 hk1 hS => ?_)
    obtain ⟨u10_0, u10_1⟩ := u10
    have hw : u10_0.toInt = u8_0.toInt + 4 ∧ iv u10_0 4 2600 ∧ True := hw
    obtain ⟨lu10_0, iu10_0, -⟩ := hw
    have mu10_0 : iv u10_0 12 2592 := by have q9 := mu8_0; exact ⟨by omega, by omega⟩
    obtain ⟨hP1, hK1, hD1⟩ := hB
    rw [ht] at hP1
    have hK1 := va_K.moved hvm.symm hK1
    obtain ⟨hP, hD⟩ := nv_join (wf := [(h0, .inr (11, [.ref h1, .ref h2, .ref h3, .ref h4, .ref h5, .int u10_0, .int x6])), (h1, .inl (y0, 2600, .inl u10_1))]) hP hD [0, 1] [] rfl rfl (by decide) (by decide) hk1 hFc hP1 hD1 rfl
    have hK := (hK.sub (tys' := []) [] rfl).app hK1
    generalize H1 = H at hP hS ⊢
    have hK : va_K (dC, dI) vwCl [(y0, .int)] s := hK
    refine lv_aload_n hx hb dX11_feed_30 rfl (lv_at hl 0 rfl) ?_
    refine lv_iload hx hb dX11_feed_31 (lv_at hl 4 rfl) ?_
    obtain ⟨hPc, hDc, hFc⟩ := nv_sub3 (wc := [(h0, .inr (11, [.ref h1, .ref h2, .ref h3, .ref h4, .ref h5, .int u10_0, .int x6])), (h1, .inl (y0, 2600, .inl u10_1))]) hP hD hS hA [0, 1] (by decide) rfl
    have hKc := hK.sub (tys' := [(y0, .int)]) [0] rfl
    refine va_callv (va_runV (As := [.int x3]) (rest := []) ⟨hx, hb, hml, hown, hG⟩ (cX11_putNumber_1 l dC dI h0 h1 h2 h3 h4 h5 y0 H.size x3 u10_0 x6 u10_1 (iv_w mu10_0 (by decide) (by decide))) (cwV 1 hG (gV wd_421 wd_423 wp_0 wd_1 wd_424) rfl rfl rfl (by decide +kernel) ⟨Nat.le_of_ble_eq_true rfl, Nat.le_of_ble_eq_true rfl⟩) ⟨fun a U g mk q => by obtain ⟨q0, q1, qP, qK, qD⟩ := q; exact ⟨q0, q1, qP, va_K.moved (u := U) (U := U.calling g mk a) (Vm.Alike.refl U.vm) qK, qD⟩, va_recv hKc hPc (ci := 11) (q0 := 0) rfl rfl, fun U hU hW => ⟨rfl, by rw [hU], by rw [hU]; exact hPc, va_K.moved hW.alike hKc, hDc.weaken (fun _ _ _ _ => trivial)⟩⟩ rfl rfl hl.1 rfl (lv_room (Nat.le_of_ble_eq_true rfl)) dX11_feed_33 ⟨by decide, by decide⟩) hS (fun q _ h => hFc q h) hFc (fun u12 t H1 locs ht hvm hw hB hz1 hk1 hS => ?_)
    obtain ⟨u12_0, u12_1⟩ := u12
    have hw : u12_0.toInt = u10_0.toInt + 4 ∧ iv u12_0 4 2600 ∧ True := hw
    obtain ⟨lu12_0, iu12_0, -⟩ := hw
    have mu12_0 : iv u12_0 16 2596 := by have q9 := mu10_0; exact ⟨by omega, by omega⟩
    obtain ⟨hP1, hK1, hD1⟩ := hB
    rw [ht] at hP1
    have hK1 := va_K.moved hvm.symm hK1
    obtain ⟨hP, hD⟩ := nv_join (wf := [(h0, .inr (11, [.ref h1, .ref h2, .ref h3, .ref h4, .ref h5, .int u12_0, .int x6])), (h1, .inl (y0, 2600, .inl u12_1))]) hP hD [0, 1] [] rfl rfl (by decide) (by decide) hk1 hFc hP1 hD1 rfl
    have hK := (hK.sub (tys' := []) [] rfl).app hK1
    generalize H1 = H at hP hS ⊢
    have hK : va_K (dC, dI) vwCl [(y0, .int)] s := hK
    refine lv_aload_n hx hb dX11_feed_36 rfl (lv_at hl 0 rfl) ?_
    refine lv_iload hx hb dX11_feed_37 (lv_at hl 5 rfl) ?_
    obtain ⟨hPc, hDc, hFc⟩ := nv_sub3 (wc := [(h0, .inr (11, [.ref h1, .ref h2, .ref h3, .ref h4, .ref h5, .int u12_0, .int x6])), (h1, .inl (y0, 2600, .inl u12_1))]) hP hD hS hA [0, 1] (by decide) rfl
    have hKc := hK.sub (tys' := [(y0, .int)]) [0] rfl
    refine va_callv (va_runV (As := [.int x4]) (rest := []) ⟨hx, hb, hml, hown, hG⟩ (cX11_putNumber_1 l dC dI h0 h1 h2 h3 h4 h5 y0 H.size x4 u12_0 x6 u12_1 (iv_w mu12_0 (by decide) (by decide))) (cwV 1 hG (gV wd_421 wd_423 wp_0 wd_1 wd_424) rfl rfl rfl (by decide +kernel) ⟨Nat.le_of_ble_eq_true rfl, Nat.le_of_ble_eq_true rfl⟩) ⟨fun a U g mk q => by obtain ⟨q0, q1, qP, qK, qD⟩ := q; exact ⟨q0, q1, qP, va_K.moved (u := U) (U := U.calling g mk a) (Vm.Alike.refl U.vm) qK, qD⟩, va_recv hKc hPc (ci := 11) (q0 := 0) rfl rfl, fun U hU hW => ⟨rfl, by rw [hU], by rw [hU]; exact hPc, va_K.moved hW.alike hKc, hDc.weaken (fun _ _ _ _ => trivial)⟩⟩ rfl rfl hl.1 rfl (lv_room (Nat.le_of_ble_eq_true rfl)) dX11_feed_39 ⟨by decide, by decide⟩) hS (fun q _ h => hFc q h) hFc (fun u14 t H1 locs ht hvm hw hB hz1 hk1 hS => ?_)
    obtain ⟨u14_0, u14_1⟩ := u14
    have hw : u14_0.toInt = u12_0.toInt + 4 ∧ iv u14_0 4 2600 ∧ True := hw
    obtain ⟨lu14_0, iu14_0, -⟩ := hw
    have mu14_0 : iv u14_0 20 2600 := by have q9 := mu12_0; exact ⟨by omega, by omega⟩
    obtain ⟨hP1, hK1, hD1⟩ := hB
    rw [ht] at hP1
    have hK1 := va_K.moved hvm.symm hK1
    obtain ⟨hP, hD⟩ := nv_join (wf := [(h0, .inr (11, [.ref h1, .ref h2, .ref h3, .ref h4, .ref h5, .int u14_0, .int x6])), (h1, .inl (y0, 2600, .inl u14_1))]) hP hD [0, 1] [] rfl rfl (by decide) (by decide) hk1 hFc hP1 hD1 rfl
    have hK := (hK.sub (tys' := []) [] rfl).app hK1
    generalize H1 = H at hP hS ⊢
    have hK : va_K (dC, dI) vwCl [(y0, .int)] s := hK
    refine lv_aload_n hx hb dX11_feed_42 rfl (lv_at hl 0 rfl) ?_
    refine va_get (D := (dC, dI)) (ci := 11) (v := .int u14_0) (C := RX11) (T := TX11) (N := 7) hx hb hG inGX11 hown hK hP 0 rfl rfl 5 (by decide) (hG _ wd_400) (fun _ h9 => h9) rfl dX11_feed_43 ?_
    rw [hQ]
    obtain ⟨hP9, hD9⟩ := nv_sub2 (wc := [(h0, .inr (11, [.ref h1, .ref h2, .ref h3, .ref h4, .ref h5, .int u14_0, .int x6])), (h1, .inl (y0, 2600, .inl u14_1))]) hP hD [0, 1] (by decide) rfl
    have hK9 := hK.sub (tys' := [(y0, .int)]) [0] rfl
    have oh15 : (x5.toInt ≤ 2580 ∧ u14_0.toInt = x5.toInt + 20 ∧ u14_0.toInt = x5.toInt + 20) ∨ (2581 ≤ x5.toInt ∧ u14_0.toInt = -1 ∧ u14_0.toInt = x5.toInt) := by omega
    exact W.iret (v := u14_0) hx hb hr (fun t ht hW => ⟨⟨u14_0, (u14_0, u14_1), rfl, ⟨iv_w mu14_0 (by decide) (by decide), iv_w mu14_0 (by decide) (by decide), oh15, trivial⟩, by rw [ht]; exact hP9, va_K.moved hW.alike hK9, hD9⟩, hS.F ht⟩) hS.2.2 dX11_feed_46
  · skip
    have j16 : iv v1 2601 2620 := iv_nleL iv1 (by decide : iv 2600 2600 2600) c2 (by decide)
    have j17 : iv x5 2581 2600 := by have q9 := ix5; exact ⟨by omega, by omega⟩
    refine lv_iconst (v := (-1)) hx hb dX11_feed_13 (by decide) ?_
    rw [hQ]
    obtain ⟨hP9, hD9⟩ := nv_sub2 (wc := [(h0, .inr (11, [.ref h1, .ref h2, .ref h3, .ref h4, .ref h5, .int x5, .int x6])), (h1, .inl (y0, 2600, .inl f0))]) hP hD [0, 1] (by decide) rfl
    have hK9 := hK.sub (tys' := [(y0, .int)]) [0] rfl
    have kc1 : ((-1) : Int32).toInt = (-1) := by decide
    have oh18 : (x5.toInt ≤ 2580 ∧ ((-1) : Int32).toInt = x5.toInt + 20 ∧ x5.toInt = x5.toInt + 20) ∨ (2581 ≤ x5.toInt ∧ ((-1) : Int32).toInt = -1 ∧ x5.toInt = x5.toInt) := by omega
    exact W.iret (v := (-1)) hx hb hr (fun t ht hW => ⟨⟨(-1), (x5, f0), rfl, ⟨iv_w (by decide : iv (-1) (-1) (-1)) (by decide) (by decide), iv_w j17 (by decide) (by decide), oh18, trivial⟩, by rw [ht]; exact hP9, va_K.moved hW.alike hK9, hD9⟩, hS.F ht⟩) hS.2.2 dX11_feed_14
set_option maxHeartbeats 100000000 in
set_option maxRecDepth 100000 in
theorem cX12_four_1 (l : Launch) (dC : Nat → ClassId) (dI : Nat → Nat → Nat) (h0 h1 h2 h3 h4 h5 h6 h7 h8 h9 h10 h11 h12 h13 h14 h15 h16 h17 : Nat) (y0 : ClassId) (sz : Nat) (x0 x1 x2 x3 x4 x5 x6 x7 x8 x9 x10 x11 x12 x13 x14 x15 x16 x17 x18 x19 x20 x21 x22 x23 x24 x25 x26 x27 x28 x29 x30 x31 x32 x33 x34 x35 x36 x37 x38 x39 x40 x41 x42 x43 x44 x45 x46 x47 x48 x49 x50 x51 x52 x53 x54 : Int32) (z0 : Int64) (f0 : Nat → Int32) (ix16 : iv x16 0 1) (ix17 : iv x17 0 40) (ix22 : iv x22 0 65535) (ix23 : iv x23 0 1) (ix24 : iv x24 0 1) (ix25 : iv x25 0 2596) (ix26 : iv x26 0 2600) (ix27 : iv x27 0 2500) (ix28 : iv x28 0 2500) (ix32 : iv x32 0 1048575) (ix33 : iv x33 0 60) (ix34 : iv x34 0 60) (ix35 : iv x35 0 1) (ix36 : iv x36 0 1) (ix37 : iv x37 0 65535) (ix42 : iv x42 0 5200) (ix43 : iv x43 0 70800) (ix47 : iv x47 0 1) (ix48 : iv x48 0 1) (ix50 : iv x50 0 100) (ix54 : iv x54 0 1) (if0 : ∀ j, iv (f0 j) (-128) 127) : Met l yX12_four (Cond.code yX12_four cX12_four 3 none :: lw_G) ({ frames := 0, cells := 0, slots := 0, locals := 0 }) (va_Pc [.ref h0, .int x0] (fun U => U.heap.size = sz ∧ va_P (dC, dI) vwCl [(h0, .inr (12, .int x1 :: .ref h1 :: .ref h2 :: .int x2 :: .int x3 :: .int x4 :: .int x5 :: .int x6 :: .int x7 :: .int x8 :: .int x9 :: .int x10 :: [.int x11, .int x12, .int x13, .int x14, .int x15, .int x16, .ref h3, .ref h4, .ref h5, .ref h6, .int x17, .int x18, .int x19, .int x20, .int x21, .int x22, .int x23, .int x24, .ref h7, .int x25, .int x26, .int x27, .int x28, .ref h8, .ref h9, .int x29, .int x30, .long z0, .int x31, .int x32, .ref h10, .ref h11, .ref h12, .ref h13, .ref h14, .int x33, .int x34, .int x35, .int x36, .int x37, .int x38, .int x39, .int x40, .int x41, .ref h15, .ref h16, .int x42, .int x43, .int x44, .int x45, .int x46, .int x47, .int x48, .int x49, .ref h17, .int x50, .int x51, .int x52, .int x53, .int x54])), (h7, .inl (y0, 2600, .inl f0))] U.heap ∧ va_K (dC, dI) vwCl [(y0, .byte)] U ∧ va_D (fun _ => True) [(h0, .inr (12, .int x1 :: .ref h1 :: .ref h2 :: .int x2 :: .int x3 :: .int x4 :: .int x5 :: .int x6 :: .int x7 :: .int x8 :: .int x9 :: .int x10 :: [.int x11, .int x12, .int x13, .int x14, .int x15, .int x16, .ref h3, .ref h4, .ref h5, .ref h6, .int x17, .int x18, .int x19, .int x20, .int x21, .int x22, .int x23, .int x24, .ref h7, .int x25, .int x26, .int x27, .int x28, .ref h8, .ref h9, .int x29, .int x30, .long z0, .int x31, .int x32, .ref h10, .ref h11, .ref h12, .ref h13, .ref h14, .int x33, .int x34, .int x35, .int x36, .int x37, .int x38, .int x39, .int x40, .int x41, .ref h15, .ref h16, .int x42, .int x43, .int x44, .int x45, .int x46, .int x47, .int x48, .int x49, .ref h17, .int x50, .int x51, .int x52, .int x53, .int x54])), (h7, .inl (y0, 2600, .inl f0))])) (va_Qv (fun (u : Int32 × (Nat → Int32)) => u.1.toInt = x25.toInt + 4 ∧ iv u.1 4 2600 ∧ (∀ j, iv (u.2 j) (-128) 127) ∧ True) (fun (u : Int32 × (Nat → Int32)) (t : State) => va_P (dC, dI) vwCl [(h0, .inr (12, .int x1 :: .ref h1 :: .ref h2 :: .int x2 :: .int x3 :: .int x4 :: .int x5 :: .int x6 :: .int x7 :: .int x8 :: .int x9 :: .int x10 :: [.int x11, .int x12, .int x13, .int x14, .int x15, .int x16, .ref h3, .ref h4, .ref h5, .ref h6, .int x17, .int x18, .int x19, .int x20, .int x21, .int x22, .int x23, .int x24, .ref h7, .int u.1, .int x26, .int x27, .int x28, .ref h8, .ref h9, .int x29, .int x30, .long z0, .int x31, .int x32, .ref h10, .ref h11, .ref h12, .ref h13, .ref h14, .int x33, .int x34, .int x35, .int x36, .int x37, .int x38, .int x39, .int x40, .int x41, .ref h15, .ref h16, .int x42, .int x43, .int x44, .int x45, .int x46, .int x47, .int x48, .int x49, .ref h17, .int x50, .int x51, .int x52, .int x53, .int x54])), (h7, .inl (y0, 2600, .inl u.2))] t.heap ∧ va_K (dC, dI) vwCl [(y0, .byte)] t ∧ va_D (va_A [(h0, .inr (12, .int x1 :: .ref h1 :: .ref h2 :: .int x2 :: .int x3 :: .int x4 :: .int x5 :: .int x6 :: .int x7 :: .int x8 :: .int x9 :: .int x10 :: [.int x11, .int x12, .int x13, .int x14, .int x15, .int x16, .ref h3, .ref h4, .ref h5, .ref h6, .int x17, .int x18, .int x19, .int x20, .int x21, .int x22, .int x23, .int x24, .ref h7, .int x25, .int x26, .int x27, .int x28, .ref h8, .ref h9, .int x29, .int x30, .long z0, .int x31, .int x32, .ref h10, .ref h11, .ref h12, .ref h13, .ref h14, .int x33, .int x34, .int x35, .int x36, .int x37, .int x38, .int x39, .int x40, .int x41, .ref h15, .ref h16, .int x42, .int x43, .int x44, .int x45, .int x46, .int x47, .int x48, .int x49, .ref h17, .int x50, .int x51, .int x52, .int x53, .int x54])), (h7, .inl (y0, 2600, .inl f0))] sz) [(h0, .inr (12, .int x1 :: .ref h1 :: .ref h2 :: .int x2 :: .int x3 :: .int x4 :: .int x5 :: .int x6 :: .int x7 :: .int x8 :: .int x9 :: .int x10 :: [.int x11, .int x12, .int x13, .int x14, .int x15, .int x16, .ref h3, .ref h4, .ref h5, .ref h6, .int x17, .int x18, .int x19, .int x20, .int x21, .int x22, .int x23, .int x24, .ref h7, .int u.1, .int x26, .int x27, .int x28, .ref h8, .ref h9, .int x29, .int x30, .long z0, .int x31, .int x32, .ref h10, .ref h11, .ref h12, .ref h13, .ref h14, .int x33, .int x34, .int x35, .int x36, .int x37, .int x38, .int x39, .int x40, .int x41, .ref h15, .ref h16, .int x42, .int x43, .int x44, .int x45, .int x46, .int x47, .int x48, .int x49, .ref h17, .int x50, .int x51, .int x52, .int x53, .int x54])), (h7, .inl (y0, 2600, .inl u.2))]) (va_A [(h0, .inr (12, .int x1 :: .ref h1 :: .ref h2 :: .int x2 :: .int x3 :: .int x4 :: .int x5 :: .int x6 :: .int x7 :: .int x8 :: .int x9 :: .int x10 :: [.int x11, .int x12, .int x13, .int x14, .int x15, .int x16, .ref h3, .ref h4, .ref h5, .ref h6, .int x17, .int x18, .int x19, .int x20, .int x21, .int x22, .int x23, .int x24, .ref h7, .int x25, .int x26, .int x27, .int x28, .ref h8, .ref h9, .int x29, .int x30, .long z0, .int x31, .int x32, .ref h10, .ref h11, .ref h12, .ref h13, .ref h14, .int x33, .int x34, .int x35, .int x36, .int x37, .int x38, .int x39, .int x40, .int x41, .ref h15, .ref h16, .int x42, .int x43, .int x44, .int x45, .int x46, .int x47, .int x48, .int x49, .ref h17, .int x50, .int x51, .int x52, .int x53, .int x54])), (h7, .inl (y0, 2600, .inl f0))] sz)) 0 0 (va_A [(h0, .inr (12, .int x1 :: .ref h1 :: .ref h2 :: .int x2 :: .int x3 :: .int x4 :: .int x5 :: .int x6 :: .int x7 :: .int x8 :: .int x9 :: .int x10 :: [.int x11, .int x12, .int x13, .int x14, .int x15, .int x16, .ref h3, .ref h4, .ref h5, .ref h6, .int x17, .int x18, .int x19, .int x20, .int x21, .int x22, .int x23, .int x24, .ref h7, .int x25, .int x26, .int x27, .int x28, .ref h8, .ref h9, .int x29, .int x30, .long z0, .int x31, .int x32, .ref h10, .ref h11, .ref h12, .ref h13, .ref h14, .int x33, .int x34, .int x35, .int x36, .int x37, .int x38, .int x39, .int x40, .int x41, .ref h15, .ref h16, .int x42, .int x43, .int x44, .int x45, .int x46, .int x47, .int x48, .int x49, .ref h17, .int x50, .int x51, .int x52, .int x53, .int x54])), (h7, .inl (y0, 2600, .inl f0))] sz) := by
  refine Met.ofW (cc := cX12_four) (maxL := 3) (ret := none) (by decide) rfl ?_
  intro p e s m args below meth c s₁ B hml hv
  obtain ⟨rfl, hsz, hP, hK, hD0⟩ := hv
  have hx := B.exec
  have hb := B.bytes
  have hr := B.returns
  have hts0 := atoms_spec (ws := Cond.code yX12_four cX12_four 3 none :: lw_G) B.pre
  have hG : ∀ w ∈ lw_G, w.before _ s = true := fun w h => hts0 w (List.mem_cons_of_mem _ h)
  have hown : s.vm.findClass RX12 = some m.cls := findClass_of_methodNamed B.named
  have hlocks := B.notSynchronized
  subst hsz
  have hD := hD0.self (sz := s.heap.size)
  generalize hAe : va_A [(h0, .inr (12, .int x1 :: .ref h1 :: .ref h2 :: .int x2 :: .int x3 :: .int x4 :: .int x5 :: .int x6 :: .int x7 :: .int x8 :: .int x9 :: .int x10 :: [.int x11, .int x12, .int x13, .int x14, .int x15, .int x16, .ref h3, .ref h4, .ref h5, .ref h6, .int x17, .int x18, .int x19, .int x20, .int x21, .int x22, .int x23, .int x24, .ref h7, .int x25, .int x26, .int x27, .int x28, .ref h8, .ref h9, .int x29, .int x30, .long z0, .int x31, .int x32, .ref h10, .ref h11, .ref h12, .ref h13, .ref h14, .int x33, .int x34, .int x35, .int x36, .int x37, .int x38, .int x39, .int x40, .int x41, .ref h15, .ref h16, .int x42, .int x43, .int x44, .int x45, .int x46, .int x47, .int x48, .int x49, .ref h17, .int x50, .int x51, .int x52, .int x53, .int x54])), (h7, .inl (y0, 2600, .inl f0))] s.heap.size = A at hD ⊢
  have hA : ∀ q : Nat, s.heap.size ≤ q → A q := fun q h => by rw [← hAe]; exact Or.inr h
  have hS : va_S A s.heap s.heap [] := va_S.rf
  have hP : va_P (dC, dI) vwCl [(h0, .inr (12, .int x1 :: .ref h1 :: .ref h2 :: .int x2 :: .int x3 :: .int x4 :: .int x5 :: .int x6 :: .int x7 :: .int x8 :: .int x9 :: .int x10 :: [.int x11, .int x12, .int x13, .int x14, .int x15, .int x16, .ref h3, .ref h4, .ref h5, .ref h6, .int x17, .int x18, .int x19, .int x20, .int x21, .int x22, .int x23, .int x24, .ref h7, .int x25, .int x26, .int x27, .int x28, .ref h8, .ref h9, .int x29, .int x30, .long z0, .int x31, .int x32, .ref h10, .ref h11, .ref h12, .ref h13, .ref h14, .int x33, .int x34, .int x35, .int x36, .int x37, .int x38, .int x39, .int x40, .int x41, .ref h15, .ref h16, .int x42, .int x43, .int x44, .int x45, .int x46, .int x47, .int x48, .int x49, .ref h17, .int x50, .int x51, .int x52, .int x53, .int x54])), (h7, .inl (y0, 2600, .inl f0))] s.heap := hP
  have hl := lv_entry ([.ref h0, .int x0]) (n := 3) (Nat.le_of_ble_eq_true rfl)
  rw [lg_entry_eq]
  generalize (lg_sl ([.ref h0, .int x0]) ++ List.replicate (3 - (lg_sl ([.ref h0, .int x0])).length) Slot.unset).toArray = ls at hl ⊢
  have hl : lv_has ls 3 [(0, .ref h0), (1, .int x0)] := hl
  generalize ([.ref h0, .int x0] : List Value).toArray = ar at hG ⊢
  refine wq (fun Q hQ => ?_)
  refine lv_bipush (v := 24) hx hb dX12_four_0 (by decide) ?_
  refine lv_istore_n (lv' := [(2, .int 24), (0, .ref h0), (1, .int x0)]) hx hb dX12_four_2 rfl hl (by decide) rfl (fun ls hl => ?_)
  refine lv_iload_n hx hb dX12_four_3 rfl (lv_at hl 0 rfl) ?_
  refine lv_if_lt (tgt := 36) hx hb dX12_four_4 (by decide) (fun c => absurd c (by decide)) (fun _ => ?_)
  refine lv_aload_n hx hb dX12_four_7 rfl (lv_at hl 1 rfl) ?_
  refine va_get (D := (dC, dI)) (ci := 12) (v := .ref h7) (C := RX12) (T := TX12) (N := 72) hx hb hG inGX12 hown hK hP 0 rfl rfl 30 (by decide) (hG _ wd_1337) (fun _ h9 => h9) rfl dX12_four_8 ?_
  refine lv_aload_n hx hb dX12_four_11 rfl (lv_at hl 1 rfl) ?_
  refine va_get (D := (dC, dI)) (ci := 12) (v := .int x25) (C := RX12) (T := TX12) (N := 72) hx hb hG inGX12 hown hK hP 0 rfl rfl 31 (by decide) (hG _ wd_1338) (fun _ h9 => h9) rfl dX12_four_12 ?_
  refine lv_iload_n hx hb dX12_four_15 rfl (lv_at hl 2 rfl) ?_
  refine lv_iload_n hx hb dX12_four_16 rfl (lv_at hl 0 rfl) ?_
  refine lv_ishr hx hb dX12_four_17 ?_
  refine lv_topi (fun v1 ev1 => ?_)
  have iv1 : iv v1 (-128) 127 := iv_eq ev1 (iv_shr 24 (by decide) (iv_any x0) (by decide) (by decide))
  refine lv_i2b (v := _) hx hb dX12_four_18 rfl ?_
  refine lv_topi (fun v2 ev2 => ?_)
  have iv2 : iv v2 (-128) 127 := iv_eq ev2 (iv_i2b _)
  refine va_bast hx hb hK hP hD hS 1 0 rfl rfl (iv_in ix25 (by decide) (by decide) : vp_in x25 2600) dX12_four_19 (fun H locs hP hD hS => ?_)
  obtain ⟨nf3, enf3⟩ : ∃ z, z = upd f0 x25.toNatClampNeg (vp_nar .byte v2) := ⟨_, rfl⟩
  obtain ⟨hP, hD⟩ := nv_eq (ws' := [(h0, .inr (12, .int x1 :: .ref h1 :: .ref h2 :: .int x2 :: .int x3 :: .int x4 :: .int x5 :: .int x6 :: .int x7 :: .int x8 :: .int x9 :: .int x10 :: [.int x11, .int x12, .int x13, .int x14, .int x15, .int x16, .ref h3, .ref h4, .ref h5, .ref h6, .int x17, .int x18, .int x19, .int x20, .int x21, .int x22, .int x23, .int x24, .ref h7, .int x25, .int x26, .int x27, .int x28, .ref h8, .ref h9, .int x29, .int x30, .long z0, .int x31, .int x32, .ref h10, .ref h11, .ref h12, .ref h13, .ref h14, .int x33, .int x34, .int x35, .int x36, .int x37, .int x38, .int x39, .int x40, .int x41, .ref h15, .ref h16, .int x42, .int x43, .int x44, .int x45, .int x46, .int x47, .int x48, .int x49, .ref h17, .int x50, .int x51, .int x52, .int x53, .int x54])), (h7, .inl (y0, 2600, .inl nf3))]) hP hD (by subst enf3; rfl)
  have inf3 : ∀ j, iv (nf3 j) (-128) 127 := by rw [enf3]; exact iv_upd if0 (iv_byte v2) (by decide) (by decide) (by decide) (by decide)
  refine lv_aload_n hx hb dX12_four_20 rfl (lv_at hl 1 rfl) ?_
  refine lv_dup hx hb dX12_four_21 rfl ?_
  refine va_get (D := (dC, dI)) (ci := 12) (v := .int x25) (C := RX12) (T := TX12) (N := 72) hx hb hG inGX12 hown hK hP 0 rfl rfl 31 (by decide) (hG _ wd_1338) (fun _ h9 => h9) rfl dX12_four_22 ?_
  refine lv_iconst (v := 1) hx hb dX12_four_25 (by decide) ?_
  refine lv_iadd hx hb dX12_four_26 ?_
  refine lv_topi (fun v4 ev4 => ?_)
  have iv4 : iv v4 1 2597 := iv_eq ev4 (iv_add ix25 (by decide : iv 1 1 1) (by decide) (by decide))
  have tv4 : v4.toInt = x25.toInt + 1 := iv_addT ev4 ix25 (by decide) (by decide) (by decide)
  refine va_put (D := (dC, dI)) (ci := 12) (v := .int v4) (ty := .int) (C := RX12) (T := TX12) (N := 72) hx hb hG inGX12 tyX12 tyX12_ok nmX12 hown hK hP hD hS 0 rfl rfl 31 (by decide) (hG _ wd_1338) (fun _ h9 => h9) rfl (by decide +kernel) rfl rfl (Nat.le_of_ble_eq_true rfl) dX12_four_27 (fun H locs hP hD hS => ?_)
  obtain ⟨hP, hD⟩ := nv_eq (ws' := [(h0, .inr (12, .int x1 :: .ref h1 :: .ref h2 :: .int x2 :: .int x3 :: .int x4 :: .int x5 :: .int x6 :: .int x7 :: .int x8 :: .int x9 :: .int x10 :: [.int x11, .int x12, .int x13, .int x14, .int x15, .int x16, .ref h3, .ref h4, .ref h5, .ref h6, .int x17, .int x18, .int x19, .int x20, .int x21, .int x22, .int x23, .int x24, .ref h7, .int v4, .int x26, .int x27, .int x28, .ref h8, .ref h9, .int x29, .int x30, .long z0, .int x31, .int x32, .ref h10, .ref h11, .ref h12, .ref h13, .ref h14, .int x33, .int x34, .int x35, .int x36, .int x37, .int x38, .int x39, .int x40, .int x41, .ref h15, .ref h16, .int x42, .int x43, .int x44, .int x45, .int x46, .int x47, .int x48, .int x49, .ref h17, .int x50, .int x51, .int x52, .int x53, .int x54])), (h7, .inl (y0, 2600, .inl nf3))]) hP hD rfl
  refine lv_iinc (v := 16) (lv' := [(2, .int 16), (0, .ref h0), (1, .int x0)]) hx hb dX12_four_30 hl (k := 0) rfl (by decide) (by decide) rfl (fun ls hl => ?_)
  refine lv_goto (tgt := 3) hx hb dX12_four_33 (by decide) ?_
  refine lv_iload_n hx hb dX12_four_3 rfl (lv_at hl 0 rfl) ?_
  refine lv_if_lt (tgt := 36) hx hb dX12_four_4 (by decide) (fun c => absurd c (by decide)) (fun _ => ?_)
  refine lv_aload_n hx hb dX12_four_7 rfl (lv_at hl 1 rfl) ?_
  refine va_get (D := (dC, dI)) (ci := 12) (v := .ref h7) (C := RX12) (T := TX12) (N := 72) hx hb hG inGX12 hown hK hP 0 rfl rfl 30 (by decide) (hG _ wd_1337) (fun _ h9 => h9) rfl dX12_four_8 ?_
  refine lv_aload_n hx hb dX12_four_11 rfl (lv_at hl 1 rfl) ?_
  refine va_get (D := (dC, dI)) (ci := 12) (v := .int v4) (C := RX12) (T := TX12) (N := 72) hx hb hG inGX12 hown hK hP 0 rfl rfl 31 (by decide) (hG _ wd_1338) (fun _ h9 => h9) rfl dX12_four_12 ?_
  refine lv_iload_n hx hb dX12_four_15 rfl (lv_at hl 2 rfl) ?_
  refine lv_iload_n hx hb dX12_four_16 rfl (lv_at hl 0 rfl) ?_
  refine lv_ishr hx hb dX12_four_17 ?_
  refine lv_topi (fun v5 ev5 => ?_)
  have iv5 : iv v5 (-32768) 32767 := iv_eq ev5 (iv_shr 16 (by decide) (iv_any x0) (by decide) (by decide))
  refine lv_i2b (v := _) hx hb dX12_four_18 rfl ?_
  refine lv_topi (fun v6 ev6 => ?_)
  have iv6 : iv v6 (-128) 127 := iv_eq ev6 (iv_i2b _)
  refine va_bast hx hb hK hP hD hS 1 0 rfl rfl (iv_in iv4 (by decide) (by decide) : vp_in v4 2600) dX12_four_19 (fun H locs hP hD hS => ?_)
  obtain ⟨nf7, enf7⟩ : ∃ z, z = upd nf3 v4.toNatClampNeg (vp_nar .byte v6) := ⟨_, rfl⟩
  obtain ⟨hP, hD⟩ := nv_eq (ws' := [(h0, .inr (12, .int x1 :: .ref h1 :: .ref h2 :: .int x2 :: .int x3 :: .int x4 :: .int x5 :: .int x6 :: .int x7 :: .int x8 :: .int x9 :: .int x10 :: [.int x11, .int x12, .int x13, .int x14, .int x15, .int x16, .ref h3, .ref h4, .ref h5, .ref h6, .int x17, .int x18, .int x19, .int x20, .int x21, .int x22, .int x23, .int x24, .ref h7, .int v4, .int x26, .int x27, .int x28, .ref h8, .ref h9, .int x29, .int x30, .long z0, .int x31, .int x32, .ref h10, .ref h11, .ref h12, .ref h13, .ref h14, .int x33, .int x34, .int x35, .int x36, .int x37, .int x38, .int x39, .int x40, .int x41, .ref h15, .ref h16, .int x42, .int x43, .int x44, .int x45, .int x46, .int x47, .int x48, .int x49, .ref h17, .int x50, .int x51, .int x52, .int x53, .int x54])), (h7, .inl (y0, 2600, .inl nf7))]) hP hD (by subst enf7; rfl)
  have inf7 : ∀ j, iv (nf7 j) (-128) 127 := by rw [enf7]; exact iv_upd inf3 (iv_byte v6) (by decide) (by decide) (by decide) (by decide)
  refine lv_aload_n hx hb dX12_four_20 rfl (lv_at hl 1 rfl) ?_
  refine lv_dup hx hb dX12_four_21 rfl ?_
  refine va_get (D := (dC, dI)) (ci := 12) (v := .int v4) (C := RX12) (T := TX12) (N := 72) hx hb hG inGX12 hown hK hP 0 rfl rfl 31 (by decide) (hG _ wd_1338) (fun _ h9 => h9) rfl dX12_four_22 ?_
  refine lv_iconst (v := 1) hx hb dX12_four_25 (by decide) ?_
  refine lv_iadd hx hb dX12_four_26 ?_
  refine lv_topi (fun v8 ev8 => ?_)
  have iv8 : iv v8 2 2598 := iv_eq ev8 (iv_add iv4 (by decide : iv 1 1 1) (by decide) (by decide))
  have tv8 : v8.toInt = v4.toInt + 1 := iv_addT ev8 iv4 (by decide) (by decide) (by decide)
  refine va_put (D := (dC, dI)) (ci := 12) (v := .int v8) (ty := .int) (C := RX12) (T := TX12) (N := 72) hx hb hG inGX12 tyX12 tyX12_ok nmX12 hown hK hP hD hS 0 rfl rfl 31 (by decide) (hG _ wd_1338) (fun _ h9 => h9) rfl (by decide +kernel) rfl rfl (Nat.le_of_ble_eq_true rfl) dX12_four_27 (fun H locs hP hD hS => ?_)
  obtain ⟨hP, hD⟩ := nv_eq (ws' := [(h0, .inr (12, .int x1 :: .ref h1 :: .ref h2 :: .int x2 :: .int x3 :: .int x4 :: .int x5 :: .int x6 :: .int x7 :: .int x8 :: .int x9 :: .int x10 :: [.int x11, .int x12, .int x13, .int x14, .int x15, .int x16, .ref h3, .ref h4, .ref h5, .ref h6, .int x17, .int x18, .int x19, .int x20, .int x21, .int x22, .int x23, .int x24, .ref h7, .int v8, .int x26, .int x27, .int x28, .ref h8, .ref h9, .int x29, .int x30, .long z0, .int x31, .int x32, .ref h10, .ref h11, .ref h12, .ref h13, .ref h14, .int x33, .int x34, .int x35, .int x36, .int x37, .int x38, .int x39, .int x40, .int x41, .ref h15, .ref h16, .int x42, .int x43, .int x44, .int x45, .int x46, .int x47, .int x48, .int x49, .ref h17, .int x50, .int x51, .int x52, .int x53, .int x54])), (h7, .inl (y0, 2600, .inl nf7))]) hP hD rfl
  refine lv_iinc (v := 8) (lv' := [(2, .int 8), (0, .ref h0), (1, .int x0)]) hx hb dX12_four_30 hl (k := 0) rfl (by decide) (by decide) rfl (fun ls hl => ?_)
  refine lv_goto (tgt := 3) hx hb dX12_four_33 (by decide) ?_
  refine lv_iload_n hx hb dX12_four_3 rfl (lv_at hl 0 rfl) ?_
  refine lv_if_lt (tgt := 36) hx hb dX12_four_4 (by decide) (fun c => absurd c (by decide)) (fun _ => ?_)
  refine lv_aload_n hx hb dX12_four_7 rfl (lv_at hl 1 rfl) ?_
  refine va_get (D := (dC, dI)) (ci := 12) (v := .ref h7) (C := RX12) (T := TX12) (N := 72) hx hb hG inGX12 hown hK hP 0 rfl rfl 30 (by decide) (hG _ wd_1337) (fun _ h9 => h9) rfl dX12_four_8 ?_
  refine lv_aload_n hx hb dX12_four_11 rfl (lv_at hl 1 rfl) ?_
  refine va_get (D := (dC, dI)) (ci := 12) (v := .int v8) (C := RX12) (T := TX12) (N := 72) hx hb hG inGX12 hown hK hP 0 rfl rfl 31 (by decide) (hG _ wd_1338) (fun _ h9 => h9) rfl dX12_four_12 ?_
  refine lv_iload_n hx hb dX12_four_15 rfl (lv_at hl 2 rfl) ?_
  refine lv_iload_n hx hb dX12_four_16 rfl (lv_at hl 0 rfl) ?_
  refine lv_ishr hx hb dX12_four_17 ?_
  refine lv_topi (fun v9 ev9 => ?_)
  have iv9 : iv v9 (-8388608) 8388607 := iv_eq ev9 (iv_shr 8 (by decide) (iv_any x0) (by decide) (by decide))
  refine lv_i2b (v := _) hx hb dX12_four_18 rfl ?_
  refine lv_topi (fun v10 ev10 => ?_)
  have iv10 : iv v10 (-128) 127 := iv_eq ev10 (iv_i2b _)
  refine va_bast hx hb hK hP hD hS 1 0 rfl rfl (iv_in iv8 (by decide) (by decide) : vp_in v8 2600) dX12_four_19 (fun H locs hP hD hS => ?_)
  obtain ⟨nf11, enf11⟩ : ∃ z, z = upd nf7 v8.toNatClampNeg (vp_nar .byte v10) := ⟨_, rfl⟩
  obtain ⟨hP, hD⟩ := nv_eq (ws' := [(h0, .inr (12, .int x1 :: .ref h1 :: .ref h2 :: .int x2 :: .int x3 :: .int x4 :: .int x5 :: .int x6 :: .int x7 :: .int x8 :: .int x9 :: .int x10 :: [.int x11, .int x12, .int x13, .int x14, .int x15, .int x16, .ref h3, .ref h4, .ref h5, .ref h6, .int x17, .int x18, .int x19, .int x20, .int x21, .int x22, .int x23, .int x24, .ref h7, .int v8, .int x26, .int x27, .int x28, .ref h8, .ref h9, .int x29, .int x30, .long z0, .int x31, .int x32, .ref h10, .ref h11, .ref h12, .ref h13, .ref h14, .int x33, .int x34, .int x35, .int x36, .int x37, .int x38, .int x39, .int x40, .int x41, .ref h15, .ref h16, .int x42, .int x43, .int x44, .int x45, .int x46, .int x47, .int x48, .int x49, .ref h17, .int x50, .int x51, .int x52, .int x53, .int x54])), (h7, .inl (y0, 2600, .inl nf11))]) hP hD (by subst enf11; rfl)
  have inf11 : ∀ j, iv (nf11 j) (-128) 127 := by rw [enf11]; exact iv_upd inf7 (iv_byte v10) (by decide) (by decide) (by decide) (by decide)
  refine lv_aload_n hx hb dX12_four_20 rfl (lv_at hl 1 rfl) ?_
  refine lv_dup hx hb dX12_four_21 rfl ?_
  refine va_get (D := (dC, dI)) (ci := 12) (v := .int v8) (C := RX12) (T := TX12) (N := 72) hx hb hG inGX12 hown hK hP 0 rfl rfl 31 (by decide) (hG _ wd_1338) (fun _ h9 => h9) rfl dX12_four_22 ?_
  refine lv_iconst (v := 1) hx hb dX12_four_25 (by decide) ?_
  refine lv_iadd hx hb dX12_four_26 ?_
  refine lv_topi (fun v12 ev12 => ?_)
  have iv12 : iv v12 3 2599 := iv_eq ev12 (iv_add iv8 (by decide : iv 1 1 1) (by decide) (by decide))
  have tv12 : v12.toInt = v8.toInt + 1 := iv_addT ev12 iv8 (by decide) (by decide) (by decide)
  refine va_put (D := (dC, dI)) (ci := 12) (v := .int v12) (ty := .int) (C := RX12) (T := TX12) (N := 72) hx hb hG inGX12 tyX12 tyX12_ok nmX12 hown hK hP hD hS 0 rfl rfl 31 (by decide) (hG _ wd_1338) (fun _ h9 => h9) rfl (by decide +kernel) rfl rfl (Nat.le_of_ble_eq_true rfl) dX12_four_27 (fun H locs hP hD hS => ?_)
  obtain ⟨hP, hD⟩ := nv_eq (ws' := [(h0, .inr (12, .int x1 :: .ref h1 :: .ref h2 :: .int x2 :: .int x3 :: .int x4 :: .int x5 :: .int x6 :: .int x7 :: .int x8 :: .int x9 :: .int x10 :: [.int x11, .int x12, .int x13, .int x14, .int x15, .int x16, .ref h3, .ref h4, .ref h5, .ref h6, .int x17, .int x18, .int x19, .int x20, .int x21, .int x22, .int x23, .int x24, .ref h7, .int v12, .int x26, .int x27, .int x28, .ref h8, .ref h9, .int x29, .int x30, .long z0, .int x31, .int x32, .ref h10, .ref h11, .ref h12, .ref h13, .ref h14, .int x33, .int x34, .int x35, .int x36, .int x37, .int x38, .int x39, .int x40, .int x41, .ref h15, .ref h16, .int x42, .int x43, .int x44, .int x45, .int x46, .int x47, .int x48, .int x49, .ref h17, .int x50, .int x51, .int x52, .int x53, .int x54])), (h7, .inl (y0, 2600, .inl nf11))]) hP hD rfl
  refine lv_iinc (v := 0) (lv' := [(2, .int 0), (0, .ref h0), (1, .int x0)]) hx hb dX12_four_30 hl (k := 0) rfl (by decide) (by decide) rfl (fun ls hl => ?_)
  refine lv_goto (tgt := 3) hx hb dX12_four_33 (by decide) ?_
  refine lv_iload_n hx hb dX12_four_3 rfl (lv_at hl 0 rfl) ?_
  refine lv_if_lt (tgt := 36) hx hb dX12_four_4 (by decide) (fun c => absurd c (by decide)) (fun _ => ?_)
  refine lv_aload_n hx hb dX12_four_7 rfl (lv_at hl 1 rfl) ?_
  refine va_get (D := (dC, dI)) (ci := 12) (v := .ref h7) (C := RX12) (T := TX12) (N := 72) hx hb hG inGX12 hown hK hP 0 rfl rfl 30 (by decide) (hG _ wd_1337) (fun _ h9 => h9) rfl dX12_four_8 ?_
  refine lv_aload_n hx hb dX12_four_11 rfl (lv_at hl 1 rfl) ?_
  refine va_get (D := (dC, dI)) (ci := 12) (v := .int v12) (C := RX12) (T := TX12) (N := 72) hx hb hG inGX12 hown hK hP 0 rfl rfl 31 (by decide) (hG _ wd_1338) (fun _ h9 => h9) rfl dX12_four_12 ?_
  refine lv_iload_n hx hb dX12_four_15 rfl (lv_at hl 2 rfl) ?_
  refine lv_iload_n hx hb dX12_four_16 rfl (lv_at hl 0 rfl) ?_
  refine lv_ishr hx hb dX12_four_17 ?_
  refine lv_topi (fun v13 ev13 => ?_)
  refine lv_i2b (v := _) hx hb dX12_four_18 rfl ?_
  refine lv_topi (fun v14 ev14 => ?_)
  have iv14 : iv v14 (-128) 127 := iv_eq ev14 (iv_i2b _)
  refine va_bast hx hb hK hP hD hS 1 0 rfl rfl (iv_in iv12 (by decide) (by decide) : vp_in v12 2600) dX12_four_19 (fun H locs hP hD hS => ?_)
  obtain ⟨nf15, enf15⟩ : ∃ z, z = upd nf11 v12.toNatClampNeg (vp_nar .byte v14) := ⟨_, rfl⟩
  obtain ⟨hP, hD⟩ := nv_eq (ws' := [(h0, .inr (12, .int x1 :: .ref h1 :: .ref h2 :: .int x2 :: .int x3 :: .int x4 :: .int x5 :: .int x6 :: .int x7 :: .int x8 :: .int x9 :: .int x10 :: [.int x11, .int x12, .int x13, .int x14, .int x15, .int x16, .ref h3, .ref h4, .ref h5, .ref h6, .int x17, .int x18, .int x19, .int x20, .int x21, .int x22, .int x23, .int x24, .ref h7, .int v12, .int x26, .int x27, .int x28, .ref h8, .ref h9, .int x29, .int x30, .long z0, .int x31, .int x32, .ref h10, .ref h11, .ref h12, .ref h13, .ref h14, .int x33, .int x34, .int x35, .int x36, .int x37, .int x38, .int x39, .int x40, .int x41, .ref h15, .ref h16, .int x42, .int x43, .int x44, .int x45, .int x46, .int x47, .int x48, .int x49, .ref h17, .int x50, .int x51, .int x52, .int x53, .int x54])), (h7, .inl (y0, 2600, .inl nf15))]) hP hD (by subst enf15; rfl)
  have inf15 : ∀ j, iv (nf15 j) (-128) 127 := by rw [enf15]; exact iv_upd inf11 (iv_byte v14) (by decide) (by decide) (by decide) (by decide)
  refine lv_aload_n hx hb dX12_four_20 rfl (lv_at hl 1 rfl) ?_
  refine lv_dup hx hb dX12_four_21 rfl ?_
  refine va_get (D := (dC, dI)) (ci := 12) (v := .int v12) (C := RX12) (T := TX12) (N := 72) hx hb hG inGX12 hown hK hP 0 rfl rfl 31 (by decide) (hG _ wd_1338) (fun _ h9 => h9) rfl dX12_four_22 ?_
  refine lv_iconst (v := 1) hx hb dX12_four_25 (by decide) ?_
  refine lv_iadd hx hb dX12_four_26 ?_
  refine lv_topi (fun v16 ev16 => ?_)
  have iv16 : iv v16 4 2600 := iv_eq ev16 (iv_add iv12 (by decide : iv 1 1 1) (by decide) (by decide))
  have tv16 : v16.toInt = v12.toInt + 1 := iv_addT ev16 iv12 (by decide) (by decide) (by decide)
  refine va_put (D := (dC, dI)) (ci := 12) (v := .int v16) (ty := .int) (C := RX12) (T := TX12) (N := 72) hx hb hG inGX12 tyX12 tyX12_ok nmX12 hown hK hP hD hS 0 rfl rfl 31 (by decide) (hG _ wd_1338) (fun _ h9 => h9) rfl (by decide +kernel) rfl rfl (Nat.le_of_ble_eq_true rfl) dX12_four_27 (fun H locs hP hD hS => ?_)
  obtain ⟨hP, hD⟩ := nv_eq (ws' := [(h0, .inr (12, .int x1 :: .ref h1 :: .ref h2 :: .int x2 :: .int x3 :: .int x4 :: .int x5 :: .int x6 :: .int x7 :: .int x8 :: .int x9 :: .int x10 :: [.int x11, .int x12, .int x13, .int x14, .int x15, .int x16, .ref h3, .ref h4, .ref h5, .ref h6, .int x17, .int x18, .int x19, .int x20, .int x21, .int x22, .int x23, .int x24, .ref h7, .int v16, .int x26, .int x27, .int x28, .ref h8, .ref h9, .int x29, .int x30, .long z0, .int x31, .int x32, .ref h10, .ref h11, .ref h12, .ref h13, .ref h14, .int x33, .int x34, .int x35, .int x36, .int x37, .int x38, .int x39, .int x40, .int x41, .ref h15, .ref h16, .int x42, .int x43, .int x44, .int x45, .int x46, .int x47, .int x48, .int x49, .ref h17, .int x50, .int x51, .int x52, .int x53, .int x54])), (h7, .inl (y0, 2600, .inl nf15))]) hP hD rfl
  refine lv_iinc (v := (-8)) (lv' := [(2, .int (-8)), (0, .ref h0), (1, .int x0)]) hx hb dX12_four_30 hl (k := 0) rfl (by decide) (by decide) rfl (fun ls hl => ?_)
  refine lv_goto (tgt := 3) hx hb dX12_four_33 (by decide) ?_
  refine lv_iload_n hx hb dX12_four_3 rfl (lv_at hl 0 rfl) ?_
  refine lv_if_lt (tgt := 36) hx hb dX12_four_4 (by decide) (fun _ => ?_) (fun c => absurd (by decide) c)
  rw [hQ]
  obtain ⟨hP9, hD9⟩ := nv_sub2 (wc := [(h0, .inr (12, .int x1 :: .ref h1 :: .ref h2 :: .int x2 :: .int x3 :: .int x4 :: .int x5 :: .int x6 :: .int x7 :: .int x8 :: .int x9 :: .int x10 :: [.int x11, .int x12, .int x13, .int x14, .int x15, .int x16, .ref h3, .ref h4, .ref h5, .ref h6, .int x17, .int x18, .int x19, .int x20, .int x21, .int x22, .int x23, .int x24, .ref h7, .int v16, .int x26, .int x27, .int x28, .ref h8, .ref h9, .int x29, .int x30, .long z0, .int x31, .int x32, .ref h10, .ref h11, .ref h12, .ref h13, .ref h14, .int x33, .int x34, .int x35, .int x36, .int x37, .int x38, .int x39, .int x40, .int x41, .ref h15, .ref h16, .int x42, .int x43, .int x44, .int x45, .int x46, .int x47, .int x48, .int x49, .ref h17, .int x50, .int x51, .int x52, .int x53, .int x54])), (h7, .inl (y0, 2600, .inl nf15))]) hP hD [0, 1] (by decide) rfl
  have hK9 := hK.sub (tys' := [(y0, .byte)]) [0] rfl
  exact W.vret hx hb hr (fun t ht hW => ⟨⟨(v16, nf15), rfl, ⟨(show v16.toInt = x25.toInt + 4 by omega), iv_w iv16 (by decide) (by decide), (fun j => iv_w (inf15 j) (by decide) (by decide)), trivial⟩, by rw [ht]; exact hP9, va_K.moved hW.alike hK9, hD9⟩, hS.F ht⟩) hS.2.2 dX12_four_36
set_option maxHeartbeats 100000000 in
set_option maxRecDepth 100000 in
theorem cX12_feed_1 (l : Launch) (dC : Nat → ClassId) (dI : Nat → Nat → Nat) (h0 h1 h2 h3 h4 h5 h6 h7 h8 h9 h10 h11 h12 h13 h14 h15 h16 h17 : Nat) (y0 : ClassId) (sz : Nat) (x0 x1 x2 x3 x4 x5 x6 x7 x8 x9 x10 x11 x12 x13 x14 x15 x16 x17 x18 x19 x20 x21 x22 x23 x24 x25 x26 x27 x28 x29 x30 x31 x32 x33 x34 x35 x36 x37 x38 x39 x40 x41 x42 x43 x44 x45 x46 x47 x48 x49 x50 x51 x52 x53 x54 x55 x56 x57 x58 : Int32) (z0 : Int64) (f0 : Nat → Int32) (ix20 : iv x20 0 1) (ix21 : iv x21 0 40) (ix26 : iv x26 0 65535) (ix27 : iv x27 0 1) (ix28 : iv x28 0 1) (ix29 : iv x29 0 2600) (ix30 : iv x30 0 2600) (ix31 : iv x31 0 2500) (ix32 : iv x32 0 2500) (ix36 : iv x36 0 1048575) (ix37 : iv x37 0 60) (ix38 : iv x38 0 60) (ix39 : iv x39 0 1) (ix40 : iv x40 0 1) (ix41 : iv x41 0 65535) (ix46 : iv x46 0 5200) (ix47 : iv x47 0 70800) (ix51 : iv x51 0 1) (ix52 : iv x52 0 1) (ix54 : iv x54 0 100) (ix58 : iv x58 0 1) (if0 : ∀ j, iv (f0 j) (-128) 127) : Met l yX12_feed (Cond.code yX12_feed cX12_feed 6 (some .int) :: lw_G) ({ frames := 1, cells := 0, slots := 0, locals := 22 }) (va_Pc [.ref h0, .int x0, .int x1, .int x2, .int x3, .int x4] (fun U => U.heap.size = sz ∧ va_P (dC, dI) vwCl [(h0, .inr (12, .int x5 :: .ref h1 :: .ref h2 :: .int x6 :: .int x7 :: .int x8 :: .int x9 :: .int x10 :: .int x11 :: .int x12 :: .int x13 :: .int x14 :: [.int x15, .int x16, .int x17, .int x18, .int x19, .int x20, .ref h3, .ref h4, .ref h5, .ref h6, .int x21, .int x22, .int x23, .int x24, .int x25, .int x26, .int x27, .int x28, .ref h7, .int x29, .int x30, .int x31, .int x32, .ref h8, .ref h9, .int x33, .int x34, .long z0, .int x35, .int x36, .ref h10, .ref h11, .ref h12, .ref h13, .ref h14, .int x37, .int x38, .int x39, .int x40, .int x41, .int x42, .int x43, .int x44, .int x45, .ref h15, .ref h16, .int x46, .int x47, .int x48, .int x49, .int x50, .int x51, .int x52, .int x53, .ref h17, .int x54, .int x55, .int x56, .int x57, .int x58])), (h7, .inl (y0, 2600, .inl f0))] U.heap ∧ va_K (dC, dI) vwCl [(y0, .byte)] U ∧ va_D (fun _ => True) [(h0, .inr (12, .int x5 :: .ref h1 :: .ref h2 :: .int x6 :: .int x7 :: .int x8 :: .int x9 :: .int x10 :: .int x11 :: .int x12 :: .int x13 :: .int x14 :: [.int x15, .int x16, .int x17, .int x18, .int x19, .int x20, .ref h3, .ref h4, .ref h5, .ref h6, .int x21, .int x22, .int x23, .int x24, .int x25, .int x26, .int x27, .int x28, .ref h7, .int x29, .int x30, .int x31, .int x32, .ref h8, .ref h9, .int x33, .int x34, .long z0, .int x35, .int x36, .ref h10, .ref h11, .ref h12, .ref h13, .ref h14, .int x37, .int x38, .int x39, .int x40, .int x41, .int x42, .int x43, .int x44, .int x45, .ref h15, .ref h16, .int x46, .int x47, .int x48, .int x49, .int x50, .int x51, .int x52, .int x53, .ref h17, .int x54, .int x55, .int x56, .int x57, .int x58])), (h7, .inl (y0, 2600, .inl f0))])) (va_Qi (fun (r : Int32) (u : Int32 × (Nat → Int32)) => iv r (-1) 2600 ∧ iv u.1 20 2600 ∧ (∀ j, iv (u.2 j) (-128) 127) ∧ ((x29.toInt ≤ 2580 ∧ r.toInt = x29.toInt + 20 ∧ u.1.toInt = x29.toInt + 20) ∨ (2581 ≤ x29.toInt ∧ r.toInt = -1 ∧ u.1.toInt = x29.toInt)) ∧ True) (fun (u : Int32 × (Nat → Int32)) (t : State) => va_P (dC, dI) vwCl [(h0, .inr (12, .int 0 :: .ref h1 :: .ref h2 :: .int x6 :: .int x7 :: .int x8 :: .int x9 :: .int x10 :: .int x11 :: .int x12 :: .int x13 :: .int x14 :: [.int x15, .int x16, .int x17, .int x18, .int x19, .int x20, .ref h3, .ref h4, .ref h5, .ref h6, .int x21, .int x22, .int x23, .int x24, .int x25, .int x26, .int x27, .int x28, .ref h7, .int u.1, .int x30, .int x31, .int x32, .ref h8, .ref h9, .int x33, .int x34, .long z0, .int x35, .int x36, .ref h10, .ref h11, .ref h12, .ref h13, .ref h14, .int x37, .int x38, .int x39, .int x40, .int x41, .int x42, .int x43, .int x44, .int x45, .ref h15, .ref h16, .int x46, .int x47, .int x48, .int x49, .int x50, .int x51, .int x52, .int x53, .ref h17, .int x54, .int x55, .int x56, .int x57, .int x58])), (h7, .inl (y0, 2600, .inl u.2))] t.heap ∧ va_K (dC, dI) vwCl [(y0, .byte)] t ∧ va_D (va_A [(h0, .inr (12, .int x5 :: .ref h1 :: .ref h2 :: .int x6 :: .int x7 :: .int x8 :: .int x9 :: .int x10 :: .int x11 :: .int x12 :: .int x13 :: .int x14 :: [.int x15, .int x16, .int x17, .int x18, .int x19, .int x20, .ref h3, .ref h4, .ref h5, .ref h6, .int x21, .int x22, .int x23, .int x24, .int x25, .int x26, .int x27, .int x28, .ref h7, .int x29, .int x30, .int x31, .int x32, .ref h8, .ref h9, .int x33, .int x34, .long z0, .int x35, .int x36, .ref h10, .ref h11, .ref h12, .ref h13, .ref h14, .int x37, .int x38, .int x39, .int x40, .int x41, .int x42, .int x43, .int x44, .int x45, .ref h15, .ref h16, .int x46, .int x47, .int x48, .int x49, .int x50, .int x51, .int x52, .int x53, .ref h17, .int x54, .int x55, .int x56, .int x57, .int x58])), (h7, .inl (y0, 2600, .inl f0))] sz) [(h0, .inr (12, .int 0 :: .ref h1 :: .ref h2 :: .int x6 :: .int x7 :: .int x8 :: .int x9 :: .int x10 :: .int x11 :: .int x12 :: .int x13 :: .int x14 :: [.int x15, .int x16, .int x17, .int x18, .int x19, .int x20, .ref h3, .ref h4, .ref h5, .ref h6, .int x21, .int x22, .int x23, .int x24, .int x25, .int x26, .int x27, .int x28, .ref h7, .int u.1, .int x30, .int x31, .int x32, .ref h8, .ref h9, .int x33, .int x34, .long z0, .int x35, .int x36, .ref h10, .ref h11, .ref h12, .ref h13, .ref h14, .int x37, .int x38, .int x39, .int x40, .int x41, .int x42, .int x43, .int x44, .int x45, .ref h15, .ref h16, .int x46, .int x47, .int x48, .int x49, .int x50, .int x51, .int x52, .int x53, .ref h17, .int x54, .int x55, .int x56, .int x57, .int x58])), (h7, .inl (y0, 2600, .inl u.2))]) (va_A [(h0, .inr (12, .int x5 :: .ref h1 :: .ref h2 :: .int x6 :: .int x7 :: .int x8 :: .int x9 :: .int x10 :: .int x11 :: .int x12 :: .int x13 :: .int x14 :: [.int x15, .int x16, .int x17, .int x18, .int x19, .int x20, .ref h3, .ref h4, .ref h5, .ref h6, .int x21, .int x22, .int x23, .int x24, .int x25, .int x26, .int x27, .int x28, .ref h7, .int x29, .int x30, .int x31, .int x32, .ref h8, .ref h9, .int x33, .int x34, .long z0, .int x35, .int x36, .ref h10, .ref h11, .ref h12, .ref h13, .ref h14, .int x37, .int x38, .int x39, .int x40, .int x41, .int x42, .int x43, .int x44, .int x45, .ref h15, .ref h16, .int x46, .int x47, .int x48, .int x49, .int x50, .int x51, .int x52, .int x53, .ref h17, .int x54, .int x55, .int x56, .int x57, .int x58])), (h7, .inl (y0, 2600, .inl f0))] sz)) 0 0 (va_A [(h0, .inr (12, .int x5 :: .ref h1 :: .ref h2 :: .int x6 :: .int x7 :: .int x8 :: .int x9 :: .int x10 :: .int x11 :: .int x12 :: .int x13 :: .int x14 :: [.int x15, .int x16, .int x17, .int x18, .int x19, .int x20, .ref h3, .ref h4, .ref h5, .ref h6, .int x21, .int x22, .int x23, .int x24, .int x25, .int x26, .int x27, .int x28, .ref h7, .int x29, .int x30, .int x31, .int x32, .ref h8, .ref h9, .int x33, .int x34, .long z0, .int x35, .int x36, .ref h10, .ref h11, .ref h12, .ref h13, .ref h14, .int x37, .int x38, .int x39, .int x40, .int x41, .int x42, .int x43, .int x44, .int x45, .ref h15, .ref h16, .int x46, .int x47, .int x48, .int x49, .int x50, .int x51, .int x52, .int x53, .ref h17, .int x54, .int x55, .int x56, .int x57, .int x58])), (h7, .inl (y0, 2600, .inl f0))] sz) := by
  refine Met.ofW (cc := cX12_feed) (maxL := 6) (ret := (some .int)) (by decide) rfl ?_
  intro p e s m args below meth c s₁ B hml hv
  obtain ⟨rfl, hsz, hP, hK, hD0⟩ := hv
  have hx := B.exec
  have hb := B.bytes
  have hr := B.returns
  have hts0 := atoms_spec (ws := Cond.code yX12_feed cX12_feed 6 (some .int) :: lw_G) B.pre
  have hG : ∀ w ∈ lw_G, w.before _ s = true := fun w h => hts0 w (List.mem_cons_of_mem _ h)
  have hown : s.vm.findClass RX12 = some m.cls := findClass_of_methodNamed B.named
  have hlocks := B.notSynchronized
  subst hsz
  have hD := hD0.self (sz := s.heap.size)
  generalize hAe : va_A [(h0, .inr (12, .int x5 :: .ref h1 :: .ref h2 :: .int x6 :: .int x7 :: .int x8 :: .int x9 :: .int x10 :: .int x11 :: .int x12 :: .int x13 :: .int x14 :: [.int x15, .int x16, .int x17, .int x18, .int x19, .int x20, .ref h3, .ref h4, .ref h5, .ref h6, .int x21, .int x22, .int x23, .int x24, .int x25, .int x26, .int x27, .int x28, .ref h7, .int x29, .int x30, .int x31, .int x32, .ref h8, .ref h9, .int x33, .int x34, .long z0, .int x35, .int x36, .ref h10, .ref h11, .ref h12, .ref h13, .ref h14, .int x37, .int x38, .int x39, .int x40, .int x41, .int x42, .int x43, .int x44, .int x45, .ref h15, .ref h16, .int x46, .int x47, .int x48, .int x49, .int x50, .int x51, .int x52, .int x53, .ref h17, .int x54, .int x55, .int x56, .int x57, .int x58])), (h7, .inl (y0, 2600, .inl f0))] s.heap.size = A at hD ⊢
  have hA : ∀ q : Nat, s.heap.size ≤ q → A q := fun q h => by rw [← hAe]; exact Or.inr h
  have hS : va_S A s.heap s.heap [] := va_S.rf
  have hP : va_P (dC, dI) vwCl [(h0, .inr (12, .int x5 :: .ref h1 :: .ref h2 :: .int x6 :: .int x7 :: .int x8 :: .int x9 :: .int x10 :: .int x11 :: .int x12 :: .int x13 :: .int x14 :: [.int x15, .int x16, .int x17, .int x18, .int x19, .int x20, .ref h3, .ref h4, .ref h5, .ref h6, .int x21, .int x22, .int x23, .int x24, .int x25, .int x26, .int x27, .int x28, .ref h7, .int x29, .int x30, .int x31, .int x32, .ref h8, .ref h9, .int x33, .int x34, .long z0, .int x35, .int x36, .ref h10, .ref h11, .ref h12, .ref h13, .ref h14, .int x37, .int x38, .int x39, .int x40, .int x41, .int x42, .int x43, .int x44, .int x45, .ref h15, .ref h16, .int x46, .int x47, .int x48, .int x49, .int x50, .int x51, .int x52, .int x53, .ref h17, .int x54, .int x55, .int x56, .int x57, .int x58])), (h7, .inl (y0, 2600, .inl f0))] s.heap := hP
  have hl := lv_entry ([.ref h0, .int x0, .int x1, .int x2, .int x3, .int x4]) (n := 6) (Nat.le_of_ble_eq_true rfl)
  rw [lg_entry_eq]
  generalize (lg_sl ([.ref h0, .int x0, .int x1, .int x2, .int x3, .int x4]) ++ List.replicate (6 - (lg_sl ([.ref h0, .int x0, .int x1, .int x2, .int x3, .int x4])).length) Slot.unset).toArray = ls at hl ⊢
  have hl : lv_has ls 6 [(0, .ref h0), (1, .int x0), (2, .int x1), (3, .int x2), (4, .int x3), (5, .int x4)] := hl
  generalize ([.ref h0, .int x0, .int x1, .int x2, .int x3, .int x4] : List Value).toArray = ar at hG ⊢
  refine wq (fun Q hQ => ?_)
  refine lv_aload_n hx hb dX12_feed_0 rfl (lv_at hl 0 rfl) ?_
  refine lv_iconst (v := 0) hx hb dX12_feed_1 (by decide) ?_
  refine va_put (D := (dC, dI)) (ci := 12) (v := .int 0) (ty := .int) (C := RX12) (T := TX12) (N := 72) hx hb hG inGX12 tyX12 tyX12_ok nmX12 hown hK hP hD hS 0 rfl rfl 0 (by decide) (hG _ wd_1307) (fun _ h9 => h9) rfl (by decide +kernel) rfl rfl (Nat.le_of_ble_eq_true rfl) dX12_feed_2 (fun H locs hP hD hS => ?_)
  obtain ⟨hP, hD⟩ := nv_eq (ws' := [(h0, .inr (12, .int 0 :: .ref h1 :: .ref h2 :: .int x6 :: .int x7 :: .int x8 :: .int x9 :: .int x10 :: .int x11 :: .int x12 :: .int x13 :: .int x14 :: [.int x15, .int x16, .int x17, .int x18, .int x19, .int x20, .ref h3, .ref h4, .ref h5, .ref h6, .int x21, .int x22, .int x23, .int x24, .int x25, .int x26, .int x27, .int x28, .ref h7, .int x29, .int x30, .int x31, .int x32, .ref h8, .ref h9, .int x33, .int x34, .long z0, .int x35, .int x36, .ref h10, .ref h11, .ref h12, .ref h13, .ref h14, .int x37, .int x38, .int x39, .int x40, .int x41, .int x42, .int x43, .int x44, .int x45, .ref h15, .ref h16, .int x46, .int x47, .int x48, .int x49, .int x50, .int x51, .int x52, .int x53, .ref h17, .int x54, .int x55, .int x56, .int x57, .int x58])), (h7, .inl (y0, 2600, .inl f0))]) hP hD rfl
  refine lv_aload_n hx hb dX12_feed_5 rfl (lv_at hl 0 rfl) ?_
  refine va_get (D := (dC, dI)) (ci := 12) (v := .int x29) (C := RX12) (T := TX12) (N := 72) hx hb hG inGX12 hown hK hP 0 rfl rfl 31 (by decide) (hG _ wd_1338) (fun _ h9 => h9) rfl dX12_feed_6 ?_
  refine lv_bipush (v := 20) hx hb dX12_feed_9 (by decide) ?_
  refine lv_iadd hx hb dX12_feed_11 ?_
  refine lv_topi (fun v1 ev1 => ?_)
  have iv1 : iv v1 20 2620 := iv_eq ev1 (iv_add ix29 (by decide : iv 20 20 20) (by decide) (by decide))
  have tv1 : v1.toInt = x29.toInt + 20 := iv_addT ev1 ix29 (by decide) (by decide) (by decide)
  refine lv_sipush (v := 2600) hx hb dX12_feed_12 (by decide) ?_
  refine lv_icmp_le (tgt := 20) hx hb dX12_feed_15 (by decide) (fun c2 => ?_) (fun c2 => ?_)
  · skip
    have j3 : iv v1 20 2600 := iv_leL iv1 (by decide : iv 2600 2600 2600) c2 (by decide)
    have j4 : iv x29 0 2580 := by have q9 := ix29; exact ⟨by omega, by omega⟩
    refine lv_aload_n hx hb dX12_feed_20 rfl (lv_at hl 0 rfl) ?_
    refine lv_iload_n hx hb dX12_feed_21 rfl (lv_at hl 1 rfl) ?_
    obtain ⟨hPc, hDc, hFc⟩ := nv_sub3 (wc := [(h0, .inr (12, .int 0 :: .ref h1 :: .ref h2 :: .int x6 :: .int x7 :: .int x8 :: .int x9 :: .int x10 :: .int x11 :: .int x12 :: .int x13 :: .int x14 :: [.int x15, .int x16, .int x17, .int x18, .int x19, .int x20, .ref h3, .ref h4, .ref h5, .ref h6, .int x21, .int x22, .int x23, .int x24, .int x25, .int x26, .int x27, .int x28, .ref h7, .int x29, .int x30, .int x31, .int x32, .ref h8, .ref h9, .int x33, .int x34, .long z0, .int x35, .int x36, .ref h10, .ref h11, .ref h12, .ref h13, .ref h14, .int x37, .int x38, .int x39, .int x40, .int x41, .int x42, .int x43, .int x44, .int x45, .ref h15, .ref h16, .int x46, .int x47, .int x48, .int x49, .int x50, .int x51, .int x52, .int x53, .ref h17, .int x54, .int x55, .int x56, .int x57, .int x58])), (h7, .inl (y0, 2600, .inl f0))]) hP hD hS hA [0, 1] (by decide) rfl
    have hKc := hK.sub (tys' := [(y0, .byte)]) [0] rfl
    refine va_callv (va_runV (As := [.int x0]) (rest := []) ⟨hx, hb, hml, hown, hG⟩ (cX12_four_1 l dC dI h0 h1 h2 h3 h4 h5 h6 h7 h8 h9 h10 h11 h12 h13 h14 h15 h16 h17 y0 H.size x0 0 x6 x7 x8 x9 x10 x11 x12 x13 x14 x15 x16 x17 x18 x19 x20 x21 x22 x23 x24 x25 x26 x27 x28 x29 x30 x31 x32 x33 x34 x35 x36 x37 x38 x39 x40 x41 x42 x43 x44 x45 x46 x47 x48 x49 x50 x51 x52 x53 x54 x55 x56 x57 x58 z0 f0 ix20 ix21 ix26 ix27 ix28 (iv_w j4 (by decide) (by decide)) ix30 ix31 ix32 ix36 ix37 ix38 ix39 ix40 ix41 ix46 ix47 ix51 ix52 ix54 ix58 if0) (cwV 1 hG (gV wd_1691 wd_1693 wp_95 wd_17 wd_1694) rfl rfl rfl (by decide +kernel) ⟨Nat.le_of_ble_eq_true rfl, Nat.le_of_ble_eq_true rfl⟩) ⟨fun a U g mk q => by obtain ⟨q0, q1, qP, qK, qD⟩ := q; exact ⟨q0, q1, qP, va_K.moved (u := U) (U := U.calling g mk a) (Vm.Alike.refl U.vm) qK, qD⟩, va_recv hKc hPc (ci := 12) (q0 := 0) rfl rfl, fun U hU hW => ⟨rfl, by rw [hU], by rw [hU]; exact hPc, va_K.moved hW.alike hKc, hDc.weaken (fun _ _ _ _ => trivial)⟩⟩ rfl rfl hl.1 rfl (lv_room (Nat.le_of_ble_eq_true rfl)) dX12_feed_22 ⟨by decide, by decide⟩) hS (fun q _ h => hFc q h) hFc (fun u6 t H1 locs ht hvm hw hB hz1 hk1 hS => ?_)
    obtain ⟨u6_0, u6_1⟩ := u6
    have hw : u6_0.toInt = x29.toInt + 4 ∧ iv u6_0 4 2600 ∧ (∀ j, iv (u6_1 j) (-128) 127) ∧ True := hw
    obtain ⟨lu6_0, iu6_0, iu6_1, -⟩ := hw
    have mu6_0 : iv u6_0 4 2584 := by have q9 := j4; exact ⟨by omega, by omega⟩
    obtain ⟨hP1, hK1, hD1⟩ := hB
    rw [ht] at hP1
    have hK1 := va_K.moved hvm.symm hK1
    obtain ⟨hP, hD⟩ := nv_join (wf := [(h0, .inr (12, .int 0 :: .ref h1 :: .ref h2 :: .int x6 :: .int x7 :: .int x8 :: .int x9 :: .int x10 :: .int x11 :: .int x12 :: .int x13 :: .int x14 :: [.int x15, .int x16, .int x17, .int x18, .int x19, .int x20, .ref h3, .ref h4, .ref h5, .ref h6, .int x21, .int x22, .int x23, .int x24, .int x25, .int x26, .int x27, .int x28, .ref h7, .int u6_0, .int x30, .int x31, .int x32, .ref h8, .ref h9, .int x33, .int x34, .long z0, .int x35, .int x36, .ref h10, .ref h11, .ref h12, .ref h13, .ref h14, .int x37, .int x38, .int x39, .int x40, .int x41, .int x42, .int x43, .int x44, .int x45, .ref h15, .ref h16, .int x46, .int x47, .int x48, .int x49, .int x50, .int x51, .int x52, .int x53, .ref h17, .int x54, .int x55, .int x56, .int x57, .int x58])), (h7, .inl (y0, 2600, .inl u6_1))]) hP hD [0, 1] [] rfl rfl (by decide) (by decide) hk1 hFc hP1 hD1 rfl
    have hK := (hK.sub (tys' := []) [] rfl).app hK1
    generalize H1 = H at hP hS ⊢
    have hK : va_K (dC, dI) vwCl [(y0, .byte)] s := hK
    clear hKc hPc hDc hFc hP1 hD1 hK1 hk1 hz1
    refine lv_aload_n hx hb dX12_feed_25 rfl (lv_at hl 0 rfl) ?_
    refine lv_iload_n hx hb dX12_feed_26 rfl (lv_at hl 2 rfl) ?_
    obtain ⟨hPc, hDc, hFc⟩ := nv_sub3 (wc := [(h0, .inr (12, .int 0 :: .ref h1 :: .ref h2 :: .int x6 :: .int x7 :: .int x8 :: .int x9 :: .int x10 :: .int x11 :: .int x12 :: .int x13 :: .int x14 :: [.int x15, .int x16, .int x17, .int x18, .int x19, .int x20, .ref h3, .ref h4, .ref h5, .ref h6, .int x21, .int x22, .int x23, .int x24, .int x25, .int x26, .int x27, .int x28, .ref h7, .int u6_0, .int x30, .int x31, .int x32, .ref h8, .ref h9, .int x33, .int x34, .long z0, .int x35, .int x36, .ref h10, .ref h11, .ref h12, .ref h13, .ref h14, .int x37, .int x38, .int x39, .int x40, .int x41, .int x42, .int x43, .int x44, .int x45, .ref h15, .ref h16, .int x46, .int x47, .int x48, .int x49, .int x50, .int x51, .int x52, .int x53, .ref h17, .int x54, .int x55, .int x56, .int x57, .int x58])), (h7, .inl (y0, 2600, .inl u6_1))]) hP hD hS hA [0, 1] (by decide) rfl
    have hKc := hK.sub (tys' := [(y0, .byte)]) [0] rfl
    refine va_callv (va_runV (As := [.int x1]) (rest := []) ⟨hx, hb, hml, hown, hG⟩ (cX12_four_1 l dC dI h0 h1 h2 h3 h4 h5 h6 h7 h8 h9 h10 h11 h12 h13 h14 h15 h16 h17 y0 H.size x1 0 x6 x7 x8 x9 x10 x11 x12 x13 x14 x15 x16 x17 x18 x19 x20 x21 x22 x23 x24 x25 x26 x27 x28 u6_0 x30 x31 x32 x33 x34 x35 x36 x37 x38 x39 x40 x41 x42 x43 x44 x45 x46 x47 x48 x49 x50 x51 x52 x53 x54 x55 x56 x57 x58 z0 u6_1 ix20 ix21 ix26 ix27 ix28 (iv_w mu6_0 (by decide) (by decide)) ix30 ix31 ix32 ix36 ix37 ix38 ix39 ix40 ix41 ix46 ix47 ix51 ix52 ix54 ix58 iu6_1) (cwV 1 hG (gV wd_1691 wd_1693 wp_95 wd_17 wd_1694) rfl rfl rfl (by decide +kernel) ⟨Nat.le_of_ble_eq_true rfl, Nat.le_of_ble_eq_true rfl⟩) ⟨fun a U g mk q => by obtain ⟨q0, q1, qP, qK, qD⟩ := q; exact ⟨q0, q1, qP, va_K.moved (u := U) (U := U.calling g mk a) (Vm.Alike.refl U.vm) qK, qD⟩, va_recv hKc hPc (ci := 12) (q0 := 0) rfl rfl, fun U hU hW => ⟨rfl, by rw [hU], by rw [hU]; exact hPc, va_K.moved hW.alike hKc, hDc.weaken (fun _ _ _ _ => trivial)⟩⟩ rfl rfl hl.1 rfl (lv_room (Nat.le_of_ble_eq_true rfl)) dX12_feed_27 ⟨by decide, by decide⟩) hS (fun q _ h => hFc q h) hFc (fun u8 t H1 locs ht hvm hw hB hz1 hk1 hS => ?_)
    obtain ⟨u8_0, u8_1⟩ := u8
    have hw : u8_0.toInt = u6_0.toInt + 4 ∧ iv u8_0 4 2600 ∧ (∀ j, iv (u8_1 j) (-128) 127) ∧ True := hw
    obtain ⟨lu8_0, iu8_0, iu8_1, -⟩ := hw
    have mu8_0 : iv u8_0 8 2588 := by have q9 := mu6_0; exact ⟨by omega, by omega⟩
    obtain ⟨hP1, hK1, hD1⟩ := hB
    rw [ht] at hP1
    have hK1 := va_K.moved hvm.symm hK1
    obtain ⟨hP, hD⟩ := nv_join (wf := [(h0, .inr (12, .int 0 :: .ref h1 :: .ref h2 :: .int x6 :: .int x7 :: .int x8 :: .int x9 :: .int x10 :: .int x11 :: .int x12 :: .int x13 :: .int x14 :: [.int x15, .int x16, .int x17, .int x18, .int x19, .int x20, .ref h3, .ref h4, .ref h5, .ref h6, .int x21, .int x22, .int x23, .int x24, .int x25, .int x26, .int x27, .int x28, .ref h7, .int u8_0, .int x30, .int x31, .int x32, .ref h8, .ref h9, .int x33, .int x34, .long z0, .int x35, .int x36, .ref h10, .ref h11, .ref h12, .ref h13, .ref h14, .int x37, .int x38, .int x39, .int x40, .int x41, .int x42, .int x43, .int x44, .int x45, .ref h15, .ref h16, .int x46, .int x47, .int x48, .int x49, .int x50, .int x51, .int x52, .int x53, .ref h17, .int x54, .int x55, .int x56, .int x57, .int x58])), (h7, .inl (y0, 2600, .inl u8_1))]) hP hD [0, 1] [] rfl rfl (by decide) (by decide) hk1 hFc hP1 hD1 rfl
    have hK := (hK.sub (tys' := []) [] rfl).app hK1
    generalize H1 = H at hP hS ⊢
    have hK : va_K (dC, dI) vwCl [(y0, .byte)] s := hK
    clear hKc hPc hDc hFc hP1 hD1 hK1 hk1 hz1
    refine lv_aload_n hx hb dX12_feed_30 rfl (lv_at hl 0 rfl) ?_
    refine lv_iload_n hx hb dX12_feed_31 rfl (lv_at hl 3 rfl) ?_
    obtain ⟨hPc, hDc, hFc⟩ := nv_sub3 (wc := [(h0, .inr (12, .int 0 :: .ref h1 :: .ref h2 :: .int x6 :: .int x7 :: .int x8 :: .int x9 :: .int x10 :: .int x11 :: .int x12 :: .int x13 :: .int x14 :: [.int x15, .int x16, .int x17, .int x18, .int x19, .int x20, .ref h3, .ref h4, .ref h5, .ref h6, .int x21, .int x22, .int x23, .int x24, .int x25, .int x26, .int x27, .int x28, .ref h7, .int u8_0, .int x30, .int x31, .int x32, .ref h8, .ref h9, .int x33, .int x34, .long z0, .int x35, .int x36, .ref h10, .ref h11, .ref h12, .ref h13, .ref h14, .int x37, .int x38, .int x39, .int x40, .int x41, .int x42, .int x43, .int x44, .int x45, .ref h15, .ref h16, .int x46, .int x47, .int x48, .int x49, .int x50, .int x51, .int x52, .int x53, .ref h17, .int x54, .int x55, .int x56, .int x57, .int x58])), (h7, .inl (y0, 2600, .inl u8_1))]) hP hD hS hA [0, 1] (by decide) rfl
    have hKc := hK.sub (tys' := [(y0, .byte)]) [0] rfl
    refine va_callv (va_runV (As := [.int x2]) (rest := []) ⟨hx, hb, hml, hown, hG⟩ (cX12_four_1 l dC dI h0 h1 h2 h3 h4 h5 h6 h7 h8 h9 h10 h11 h12 h13 h14 h15 h16 h17 y0 H.size x2 0 x6 x7 x8 x9 x10 x11 x12 x13 x14 x15 x16 x17 x18 x19 x20 x21 x22 x23 x24 x25 x26 x27 x28 u8_0 x30 x31 x32 x33 x34 x35 x36 x37 x38 x39 x40 x41 x42 x43 x44 x45 x46 x47 x48 x49 x50 x51 x52 x53 x54 x55 x56 x57 x58 z0 u8_1 ix20 ix21 ix26 ix27 ix28 (iv_w mu8_0 (by decide) (by decide)) ix30 ix31 ix32 ix36 ix37 ix38 ix39 ix40 ix41 ix46 ix47 ix51 ix52 ix54 ix58 iu8_1) (cwV 1 hG (gV wd_1691 wd_1693 wp_95 wd_17 wd_1694) rfl rfl rfl (by decide +kernel) ⟨Nat.le_of_ble_eq_true rfl, Nat.le_of_ble_eq_true rfl⟩) ⟨fun a U g mk q => by obtain ⟨q0, q1, qP, qK, qD⟩ := q; exact ⟨q0, q1, qP, va_K.moved (u := U) (U := U.calling g mk a) (Vm.Alike.refl U.vm) qK, qD⟩, va_recv hKc hPc (ci := 12) (q0 := 0) rfl rfl, fun U hU hW => ⟨rfl, by rw [hU], by rw [hU]; exact hPc, va_K.moved hW.alike hKc, hDc.weaken (fun _ _ _ _ => trivial)⟩⟩ rfl rfl hl.1 rfl (lv_room (Nat.le_of_ble_eq_true rfl)) dX12_feed_32 ⟨by decide, by decide⟩) hS (fun q _ h => hFc q h) hFc (fun u10 t H1 locs ht hvm hw hB hz1 hk1 hS => ?_)
    obtain ⟨u10_0, u10_1⟩ := u10
    have hw : u10_0.toInt = u8_0.toInt + 4 ∧ iv u10_0 4 2600 ∧ (∀ j, iv (u10_1 j) (-128) 127) ∧ True := hw
    obtain ⟨lu10_0, iu10_0, iu10_1, -⟩ := hw
    have mu10_0 : iv u10_0 12 2592 := by have q9 := mu8_0; exact ⟨by omega, by omega⟩
    obtain ⟨hP1, hK1, hD1⟩ := hB
    rw [ht] at hP1
    have hK1 := va_K.moved hvm.symm hK1
    obtain ⟨hP, hD⟩ := nv_join (wf := [(h0, .inr (12, .int 0 :: .ref h1 :: .ref h2 :: .int x6 :: .int x7 :: .int x8 :: .int x9 :: .int x10 :: .int x11 :: .int x12 :: .int x13 :: .int x14 :: [.int x15, .int x16, .int x17, .int x18, .int x19, .int x20, .ref h3, .ref h4, .ref h5, .ref h6, .int x21, .int x22, .int x23, .int x24, .int x25, .int x26, .int x27, .int x28, .ref h7, .int u10_0, .int x30, .int x31, .int x32, .ref h8, .ref h9, .int x33, .int x34, .long z0, .int x35, .int x36, .ref h10, .ref h11, .ref h12, .ref h13, .ref h14, .int x37, .int x38, .int x39, .int x40, .int x41, .int x42, .int x43, .int x44, .int x45, .ref h15, .ref h16, .int x46, .int x47, .int x48, .int x49, .int x50, .int x51, .int x52, .int x53, .ref h17, .int x54, .int x55, .int x56, .int x57, .int x58])), (h7, .inl (y0, 2600, .inl u10_1))]) hP hD [0, 1] [] rfl rfl (by decide) (by decide) hk1 hFc hP1 hD1 rfl
    have hK := (hK.sub (tys' := []) [] rfl).app hK1
    generalize H1 = H at hP hS ⊢
    have hK : va_K (dC, dI) vwCl [(y0, .byte)] s := hK
    clear hKc hPc hDc hFc hP1 hD1 hK1 hk1 hz1
    refine lv_aload_n hx hb dX12_feed_35 rfl (lv_at hl 0 rfl) ?_
    refine lv_iload hx hb dX12_feed_36 (lv_at hl 4 rfl) ?_
    obtain ⟨hPc, hDc, hFc⟩ := nv_sub3 (wc := [(h0, .inr (12, .int 0 :: .ref h1 :: .ref h2 :: .int x6 :: .int x7 :: .int x8 :: .int x9 :: .int x10 :: .int x11 :: .int x12 :: .int x13 :: .int x14 :: [.int x15, .int x16, .int x17, .int x18, .int x19, .int x20, .ref h3, .ref h4, .ref h5, .ref h6, .int x21, .int x22, .int x23, .int x24, .int x25, .int x26, .int x27, .int x28, .ref h7, .int u10_0, .int x30, .int x31, .int x32, .ref h8, .ref h9, .int x33, .int x34, .long z0, .int x35, .int x36, .ref h10, .ref h11, .ref h12, .ref h13, .ref h14, .int x37, .int x38, .int x39, .int x40, .int x41, .int x42, .int x43, .int x44, .int x45, .ref h15, .ref h16, .int x46, .int x47, .int x48, .int x49, .int x50, .int x51, .int x52, .int x53, .ref h17, .int x54, .int x55, .int x56, .int x57, .int x58])), (h7, .inl (y0, 2600, .inl u10_1))]) hP hD hS hA [0, 1] (by decide) rfl
    have hKc := hK.sub (tys' := [(y0, .byte)]) [0] rfl
    refine va_callv (va_runV (As := [.int x3]) (rest := []) ⟨hx, hb, hml, hown, hG⟩ (cX12_four_1 l dC dI h0 h1 h2 h3 h4 h5 h6 h7 h8 h9 h10 h11 h12 h13 h14 h15 h16 h17 y0 H.size x3 0 x6 x7 x8 x9 x10 x11 x12 x13 x14 x15 x16 x17 x18 x19 x20 x21 x22 x23 x24 x25 x26 x27 x28 u10_0 x30 x31 x32 x33 x34 x35 x36 x37 x38 x39 x40 x41 x42 x43 x44 x45 x46 x47 x48 x49 x50 x51 x52 x53 x54 x55 x56 x57 x58 z0 u10_1 ix20 ix21 ix26 ix27 ix28 (iv_w mu10_0 (by decide) (by decide)) ix30 ix31 ix32 ix36 ix37 ix38 ix39 ix40 ix41 ix46 ix47 ix51 ix52 ix54 ix58 iu10_1) (cwV 1 hG (gV wd_1691 wd_1693 wp_95 wd_17 wd_1694) rfl rfl rfl (by decide +kernel) ⟨Nat.le_of_ble_eq_true rfl, Nat.le_of_ble_eq_true rfl⟩) ⟨fun a U g mk q => by obtain ⟨q0, q1, qP, qK, qD⟩ := q; exact ⟨q0, q1, qP, va_K.moved (u := U) (U := U.calling g mk a) (Vm.Alike.refl U.vm) qK, qD⟩, va_recv hKc hPc (ci := 12) (q0 := 0) rfl rfl, fun U hU hW => ⟨rfl, by rw [hU], by rw [hU]; exact hPc, va_K.moved hW.alike hKc, hDc.weaken (fun _ _ _ _ => trivial)⟩⟩ rfl rfl hl.1 rfl (lv_room (Nat.le_of_ble_eq_true rfl)) dX12_feed_38 ⟨by decide, by decide⟩) hS (fun q _ h => hFc q h) hFc (fun u12 t H1 locs ht hvm hw hB hz1 hk1 hS => ?_)
    obtain ⟨u12_0, u12_1⟩ := u12
    have hw : u12_0.toInt = u10_0.toInt + 4 ∧ iv u12_0 4 2600 ∧ (∀ j, iv (u12_1 j) (-128) 127) ∧ True := hw
    obtain ⟨lu12_0, iu12_0, iu12_1, -⟩ := hw
    have mu12_0 : iv u12_0 16 2596 := by have q9 := mu10_0; exact ⟨by omega, by omega⟩
    obtain ⟨hP1, hK1, hD1⟩ := hB
    rw [ht] at hP1
    have hK1 := va_K.moved hvm.symm hK1
    obtain ⟨hP, hD⟩ := nv_join (wf := [(h0, .inr (12, .int 0 :: .ref h1 :: .ref h2 :: .int x6 :: .int x7 :: .int x8 :: .int x9 :: .int x10 :: .int x11 :: .int x12 :: .int x13 :: .int x14 :: [.int x15, .int x16, .int x17, .int x18, .int x19, .int x20, .ref h3, .ref h4, .ref h5, .ref h6, .int x21, .int x22, .int x23, .int x24, .int x25, .int x26, .int x27, .int x28, .ref h7, .int u12_0, .int x30, .int x31, .int x32, .ref h8, .ref h9, .int x33, .int x34, .long z0, .int x35, .int x36, .ref h10, .ref h11, .ref h12, .ref h13, .ref h14, .int x37, .int x38, .int x39, .int x40, .int x41, .int x42, .int x43, .int x44, .int x45, .ref h15, .ref h16, .int x46, .int x47, .int x48, .int x49, .int x50, .int x51, .int x52, .int x53, .ref h17, .int x54, .int x55, .int x56, .int x57, .int x58])), (h7, .inl (y0, 2600, .inl u12_1))]) hP hD [0, 1] [] rfl rfl (by decide) (by decide) hk1 hFc hP1 hD1 rfl
    have hK := (hK.sub (tys' := []) [] rfl).app hK1
    generalize H1 = H at hP hS ⊢
    have hK : va_K (dC, dI) vwCl [(y0, .byte)] s := hK
    clear hKc hPc hDc hFc hP1 hD1 hK1 hk1 hz1
    refine lv_aload_n hx hb dX12_feed_41 rfl (lv_at hl 0 rfl) ?_
    refine lv_iload hx hb dX12_feed_42 (lv_at hl 5 rfl) ?_
    obtain ⟨hPc, hDc, hFc⟩ := nv_sub3 (wc := [(h0, .inr (12, .int 0 :: .ref h1 :: .ref h2 :: .int x6 :: .int x7 :: .int x8 :: .int x9 :: .int x10 :: .int x11 :: .int x12 :: .int x13 :: .int x14 :: [.int x15, .int x16, .int x17, .int x18, .int x19, .int x20, .ref h3, .ref h4, .ref h5, .ref h6, .int x21, .int x22, .int x23, .int x24, .int x25, .int x26, .int x27, .int x28, .ref h7, .int u12_0, .int x30, .int x31, .int x32, .ref h8, .ref h9, .int x33, .int x34, .long z0, .int x35, .int x36, .ref h10, .ref h11, .ref h12, .ref h13, .ref h14, .int x37, .int x38, .int x39, .int x40, .int x41, .int x42, .int x43, .int x44, .int x45, .ref h15, .ref h16, .int x46, .int x47, .int x48, .int x49, .int x50, .int x51, .int x52, .int x53, .ref h17, .int x54, .int x55, .int x56, .int x57, .int x58])), (h7, .inl (y0, 2600, .inl u12_1))]) hP hD hS hA [0, 1] (by decide) rfl
    have hKc := hK.sub (tys' := [(y0, .byte)]) [0] rfl
    refine va_callv (va_runV (As := [.int x4]) (rest := []) ⟨hx, hb, hml, hown, hG⟩ (cX12_four_1 l dC dI h0 h1 h2 h3 h4 h5 h6 h7 h8 h9 h10 h11 h12 h13 h14 h15 h16 h17 y0 H.size x4 0 x6 x7 x8 x9 x10 x11 x12 x13 x14 x15 x16 x17 x18 x19 x20 x21 x22 x23 x24 x25 x26 x27 x28 u12_0 x30 x31 x32 x33 x34 x35 x36 x37 x38 x39 x40 x41 x42 x43 x44 x45 x46 x47 x48 x49 x50 x51 x52 x53 x54 x55 x56 x57 x58 z0 u12_1 ix20 ix21 ix26 ix27 ix28 (iv_w mu12_0 (by decide) (by decide)) ix30 ix31 ix32 ix36 ix37 ix38 ix39 ix40 ix41 ix46 ix47 ix51 ix52 ix54 ix58 iu12_1) (cwV 1 hG (gV wd_1691 wd_1693 wp_95 wd_17 wd_1694) rfl rfl rfl (by decide +kernel) ⟨Nat.le_of_ble_eq_true rfl, Nat.le_of_ble_eq_true rfl⟩) ⟨fun a U g mk q => by obtain ⟨q0, q1, qP, qK, qD⟩ := q; exact ⟨q0, q1, qP, va_K.moved (u := U) (U := U.calling g mk a) (Vm.Alike.refl U.vm) qK, qD⟩, va_recv hKc hPc (ci := 12) (q0 := 0) rfl rfl, fun U hU hW => ⟨rfl, by rw [hU], by rw [hU]; exact hPc, va_K.moved hW.alike hKc, hDc.weaken (fun _ _ _ _ => trivial)⟩⟩ rfl rfl hl.1 rfl (lv_room (Nat.le_of_ble_eq_true rfl)) dX12_feed_44 ⟨by decide, by decide⟩) hS (fun q _ h => hFc q h) hFc (fun u14 t H1 locs ht hvm hw hB hz1 hk1 hS => ?_)
    obtain ⟨u14_0, u14_1⟩ := u14
    have hw : u14_0.toInt = u12_0.toInt + 4 ∧ iv u14_0 4 2600 ∧ (∀ j, iv (u14_1 j) (-128) 127) ∧ True := hw
    obtain ⟨lu14_0, iu14_0, iu14_1, -⟩ := hw
    have mu14_0 : iv u14_0 20 2600 := by have q9 := mu12_0; exact ⟨by omega, by omega⟩
    obtain ⟨hP1, hK1, hD1⟩ := hB
    rw [ht] at hP1
    have hK1 := va_K.moved hvm.symm hK1
    obtain ⟨hP, hD⟩ := nv_join (wf := [(h0, .inr (12, .int 0 :: .ref h1 :: .ref h2 :: .int x6 :: .int x7 :: .int x8 :: .int x9 :: .int x10 :: .int x11 :: .int x12 :: .int x13 :: .int x14 :: [.int x15, .int x16, .int x17, .int x18, .int x19, .int x20, .ref h3, .ref h4, .ref h5, .ref h6, .int x21, .int x22, .int x23, .int x24, .int x25, .int x26, .int x27, .int x28, .ref h7, .int u14_0, .int x30, .int x31, .int x32, .ref h8, .ref h9, .int x33, .int x34, .long z0, .int x35, .int x36, .ref h10, .ref h11, .ref h12, .ref h13, .ref h14, .int x37, .int x38, .int x39, .int x40, .int x41, .int x42, .int x43, .int x44, .int x45, .ref h15, .ref h16, .int x46, .int x47, .int x48, .int x49, .int x50, .int x51, .int x52, .int x53, .ref h17, .int x54, .int x55, .int x56, .int x57, .int x58])), (h7, .inl (y0, 2600, .inl u14_1))]) hP hD [0, 1] [] rfl rfl (by decide) (by decide) hk1 hFc hP1 hD1 rfl
    have hK := (hK.sub (tys' := []) [] rfl).app hK1
    generalize H1 = H at hP hS ⊢
    have hK : va_K (dC, dI) vwCl [(y0, .byte)] s := hK
    clear hKc hPc hDc hFc hP1 hD1 hK1 hk1 hz1
    refine lv_aload_n hx hb dX12_feed_47 rfl (lv_at hl 0 rfl) ?_
    refine va_get (D := (dC, dI)) (ci := 12) (v := .int u14_0) (C := RX12) (T := TX12) (N := 72) hx hb hG inGX12 hown hK hP 0 rfl rfl 31 (by decide) (hG _ wd_1338) (fun _ h9 => h9) rfl dX12_feed_48 ?_
    rw [hQ]
    obtain ⟨hP9, hD9⟩ := nv_sub2 (wc := [(h0, .inr (12, .int 0 :: .ref h1 :: .ref h2 :: .int x6 :: .int x7 :: .int x8 :: .int x9 :: .int x10 :: .int x11 :: .int x12 :: .int x13 :: .int x14 :: [.int x15, .int x16, .int x17, .int x18, .int x19, .int x20, .ref h3, .ref h4, .ref h5, .ref h6, .int x21, .int x22, .int x23, .int x24, .int x25, .int x26, .int x27, .int x28, .ref h7, .int u14_0, .int x30, .int x31, .int x32, .ref h8, .ref h9, .int x33, .int x34, .long z0, .int x35, .int x36, .ref h10, .ref h11, .ref h12, .ref h13, .ref h14, .int x37, .int x38, .int x39, .int x40, .int x41, .int x42, .int x43, .int x44, .int x45, .ref h15, .ref h16, .int x46, .int x47, .int x48, .int x49, .int x50, .int x51, .int x52, .int x53, .ref h17, .int x54, .int x55, .int x56, .int x57, .int x58])), (h7, .inl (y0, 2600, .inl u14_1))]) hP hD [0, 1] (by decide) rfl
    have hK9 := hK.sub (tys' := [(y0, .byte)]) [0] rfl
    have oh15 : (x29.toInt ≤ 2580 ∧ u14_0.toInt = x29.toInt + 20 ∧ u14_0.toInt = x29.toInt + 20) ∨ (2581 ≤ x29.toInt ∧ u14_0.toInt = -1 ∧ u14_0.toInt = x29.toInt) := by omega
    exact W.iret (v := u14_0) hx hb hr (fun t ht hW => ⟨⟨u14_0, (u14_0, u14_1), rfl, ⟨iv_w mu14_0 (by decide) (by decide), iv_w mu14_0 (by decide) (by decide), (fun j => iv_w (iu14_1 j) (by decide) (by decide)), oh15, trivial⟩, by rw [ht]; exact hP9, va_K.moved hW.alike hK9, hD9⟩, hS.F ht⟩) hS.2.2 dX12_feed_51
  · skip
    have j16 : iv v1 2601 2620 := iv_nleL iv1 (by decide : iv 2600 2600 2600) c2 (by decide)
    have j17 : iv x29 2581 2600 := by have q9 := ix29; exact ⟨by omega, by omega⟩
    refine lv_iconst (v := (-1)) hx hb dX12_feed_18 (by decide) ?_
    rw [hQ]
    obtain ⟨hP9, hD9⟩ := nv_sub2 (wc := [(h0, .inr (12, .int 0 :: .ref h1 :: .ref h2 :: .int x6 :: .int x7 :: .int x8 :: .int x9 :: .int x10 :: .int x11 :: .int x12 :: .int x13 :: .int x14 :: [.int x15, .int x16, .int x17, .int x18, .int x19, .int x20, .ref h3, .ref h4, .ref h5, .ref h6, .int x21, .int x22, .int x23, .int x24, .int x25, .int x26, .int x27, .int x28, .ref h7, .int x29, .int x30, .int x31, .int x32, .ref h8, .ref h9, .int x33, .int x34, .long z0, .int x35, .int x36, .ref h10, .ref h11, .ref h12, .ref h13, .ref h14, .int x37, .int x38, .int x39, .int x40, .int x41, .int x42, .int x43, .int x44, .int x45, .ref h15, .ref h16, .int x46, .int x47, .int x48, .int x49, .int x50, .int x51, .int x52, .int x53, .ref h17, .int x54, .int x55, .int x56, .int x57, .int x58])), (h7, .inl (y0, 2600, .inl f0))]) hP hD [0, 1] (by decide) rfl
    have hK9 := hK.sub (tys' := [(y0, .byte)]) [0] rfl
    have kc1 : ((-1) : Int32).toInt = (-1) := by decide
    have oh18 : (x29.toInt ≤ 2580 ∧ ((-1) : Int32).toInt = x29.toInt + 20 ∧ x29.toInt = x29.toInt + 20) ∨ (2581 ≤ x29.toInt ∧ ((-1) : Int32).toInt = -1 ∧ x29.toInt = x29.toInt) := by omega
    exact W.iret (v := (-1)) hx hb hr (fun t ht hW => ⟨⟨(-1), (x29, f0), rfl, ⟨iv_w (by decide : iv (-1) (-1) (-1)) (by decide) (by decide), iv_w j17 (by decide) (by decide), (fun j => iv_w (if0 j) (by decide) (by decide)), oh18, trivial⟩, by rw [ht]; exact hP9, va_K.moved hW.alike hK9, hD9⟩, hS.F ht⟩) hS.2.2 dX12_feed_19
set_option maxHeartbeats 100000000 in
set_option maxRecDepth 100000 in
theorem cX11_end_1 (l : Launch) (dC : Nat → ClassId) (dI : Nat → Nat → Nat) (h0 h1 h2 h3 h4 h5 : Nat) (sz : Nat) (x0 x1 x2 : Int32) (ix1 : iv x1 0 2600) : Met l yX11_end (Cond.code yX11_end cX11_end 2 (some .boolean) :: lw_G) ({ frames := 0, cells := 0, slots := 0, locals := 0 }) (va_Pc [.ref h0, .int x0] (fun U => U.heap.size = sz ∧ va_P (dC, dI) vwCl [(h0, .inr (11, [.ref h1, .ref h2, .ref h3, .ref h4, .ref h5, .int x1, .int x2]))] U.heap ∧ va_K (dC, dI) vwCl [] U ∧ va_D (fun _ => True) [(h0, .inr (11, [.ref h1, .ref h2, .ref h3, .ref h4, .ref h5, .int x1, .int x2]))])) (va_Qi (fun (r : Int32) (u : Int32) => iv r 0 1 ∧ iv u 0 2600 ∧ ((0 ≤ x0.toInt ∧ x0.toInt ≤ x1.toInt ∧ u.toInt = x0.toInt ∧ r.toInt = 1) ∨ ((x0.toInt < 0 ∨ x1.toInt < x0.toInt) ∧ u.toInt = x1.toInt ∧ r.toInt = 0)) ∧ True) (fun (u : Int32) (t : State) => va_P (dC, dI) vwCl [(h0, .inr (11, [.ref h1, .ref h2, .ref h3, .ref h4, .ref h5, .int u, .int x2]))] t.heap ∧ va_K (dC, dI) vwCl [] t ∧ va_D (va_A [(h0, .inr (11, [.ref h1, .ref h2, .ref h3, .ref h4, .ref h5, .int x1, .int x2]))] sz) [(h0, .inr (11, [.ref h1, .ref h2, .ref h3, .ref h4, .ref h5, .int u, .int x2]))]) (va_A [(h0, .inr (11, [.ref h1, .ref h2, .ref h3, .ref h4, .ref h5, .int x1, .int x2]))] sz)) 0 0 (va_A [(h0, .inr (11, [.ref h1, .ref h2, .ref h3, .ref h4, .ref h5, .int x1, .int x2]))] sz) := by
  refine Met.ofW (cc := cX11_end) (maxL := 2) (ret := (some .boolean)) (by decide) rfl ?_
  intro p e s m args below meth c s₁ B hml hv
  obtain ⟨rfl, hsz, hP, hK, hD0⟩ := hv
  have hx := B.exec
  have hb := B.bytes
  have hr := B.returns
  have hts0 := atoms_spec (ws := Cond.code yX11_end cX11_end 2 (some .boolean) :: lw_G) B.pre
  have hG : ∀ w ∈ lw_G, w.before _ s = true := fun w h => hts0 w (List.mem_cons_of_mem _ h)
  have hown : s.vm.findClass RX11 = some m.cls := findClass_of_methodNamed B.named
  have hlocks := B.notSynchronized
  subst hsz
  have hD := hD0.self (sz := s.heap.size)
  generalize hAe : va_A [(h0, .inr (11, [.ref h1, .ref h2, .ref h3, .ref h4, .ref h5, .int x1, .int x2]))] s.heap.size = A at hD ⊢
  have hA : ∀ q : Nat, s.heap.size ≤ q → A q := fun q h => by rw [← hAe]; exact Or.inr h
  have hS : va_S A s.heap s.heap [] := va_S.rf
  have hP : va_P (dC, dI) vwCl [(h0, .inr (11, [.ref h1, .ref h2, .ref h3, .ref h4, .ref h5, .int x1, .int x2]))] s.heap := hP
  have hl := lv_entry ([.ref h0, .int x0]) (n := 2) (Nat.le_of_ble_eq_true rfl)
  rw [lg_entry_eq]
  generalize (lg_sl ([.ref h0, .int x0]) ++ List.replicate (2 - (lg_sl ([.ref h0, .int x0])).length) Slot.unset).toArray = ls at hl ⊢
  have hl : lv_has ls 2 [(0, .ref h0), (1, .int x0)] := hl
  generalize ([.ref h0, .int x0] : List Value).toArray = ar at hG ⊢
  refine wq (fun Q hQ => ?_)
  refine lv_iload_n hx hb dX11_end_0 rfl (lv_at hl 1 rfl) ?_
  refine lv_if_lt (tgt := 12) hx hb dX11_end_1 (by decide) (fun c1 => ?_) (fun c1 => ?_)
  · skip
    have j2 : iv x0 (-2147483648) (-1) := iv_ltL (iv_any x0) (by decide : iv 0 0 0) c1 (by decide)
    refine lv_iconst (v := 0) hx hb dX11_end_12 (by decide) ?_
    rw [hQ]
    obtain ⟨hP9, hD9⟩ := nv_sub2 (wc := [(h0, .inr (11, [.ref h1, .ref h2, .ref h3, .ref h4, .ref h5, .int x1, .int x2]))]) hP hD [0] (by decide) rfl
    have hK9 := hK.sub (tys' := []) [] rfl
    have kc0 : (0 : Int32).toInt = 0 := by decide
    have oh3 : (0 ≤ x0.toInt ∧ x0.toInt ≤ x1.toInt ∧ x1.toInt = x0.toInt ∧ (0 : Int32).toInt = 1) ∨ ((x0.toInt < 0 ∨ x1.toInt < x0.toInt) ∧ x1.toInt = x1.toInt ∧ (0 : Int32).toInt = 0) := by omega
    exact W.zret (v := 0) hx hb hr rfl (fun t ht hW => ⟨⟨0, x1, rfl, ⟨iv_w (by decide : iv 0 0 0) (by decide) (by decide), iv_w ix1 (by decide) (by decide), oh3, trivial⟩, by rw [ht]; exact hP9, va_K.moved hW.alike hK9, hD9⟩, hS.F ht⟩) hS.2.2 dX11_end_13
  · skip
    have j4 : iv x0 0 2147483647 := iv_nltL (iv_any x0) (by decide : iv 0 0 0) c1 (by decide)
    refine lv_iload_n hx hb dX11_end_4 rfl (lv_at hl 1 rfl) ?_
    refine lv_aload_n hx hb dX11_end_5 rfl (lv_at hl 0 rfl) ?_
    refine va_get (D := (dC, dI)) (ci := 11) (v := .int x1) (C := RX11) (T := TX11) (N := 7) hx hb hG inGX11 hown hK hP 0 rfl rfl 5 (by decide) (hG _ wd_400) (fun _ h9 => h9) rfl dX11_end_6 ?_
    refine lv_icmp_le (tgt := 14) hx hb dX11_end_9 (by decide) (fun c5 => ?_) (fun c5 => ?_)
    · skip
      have rl6 : x0.toInt ≤ x1.toInt := Int32.le_iff_toInt_le.mp c5
      have j7 : iv x0 0 2600 := iv_leL j4 ix1 c5 (by decide)
      refine lv_aload_n hx hb dX11_end_14 rfl (lv_at hl 0 rfl) ?_
      refine lv_iload_n hx hb dX11_end_15 rfl (lv_at hl 1 rfl) ?_
      refine va_put (D := (dC, dI)) (ci := 11) (v := .int x0) (ty := .int) (C := RX11) (T := TX11) (N := 7) hx hb hG inGX11 tyX11 tyX11_ok nmX11 hown hK hP hD hS 0 rfl rfl 5 (by decide) (hG _ wd_400) (fun _ h9 => h9) rfl (by decide +kernel) rfl rfl (Nat.le_of_ble_eq_true rfl) dX11_end_16 (fun H locs hP hD hS => ?_)
      obtain ⟨hP, hD⟩ := nv_eq (ws' := [(h0, .inr (11, [.ref h1, .ref h2, .ref h3, .ref h4, .ref h5, .int x0, .int x2]))]) hP hD rfl
      refine lv_iconst (v := 1) hx hb dX11_end_19 (by decide) ?_
      rw [hQ]
      obtain ⟨hP9, hD9⟩ := nv_sub2 (wc := [(h0, .inr (11, [.ref h1, .ref h2, .ref h3, .ref h4, .ref h5, .int x0, .int x2]))]) hP hD [0] (by decide) rfl
      have hK9 := hK.sub (tys' := []) [] rfl
      have kc1 : (1 : Int32).toInt = 1 := by decide
      have oh8 : (0 ≤ x0.toInt ∧ x0.toInt ≤ x1.toInt ∧ x0.toInt = x0.toInt ∧ (1 : Int32).toInt = 1) ∨ ((x0.toInt < 0 ∨ x1.toInt < x0.toInt) ∧ x0.toInt = x1.toInt ∧ (1 : Int32).toInt = 0) := by omega
      exact W.zret (v := 1) hx hb hr rfl (fun t ht hW => ⟨⟨1, x0, rfl, ⟨iv_w (by decide : iv 1 1 1) (by decide) (by decide), iv_w j7 (by decide) (by decide), oh8, trivial⟩, by rw [ht]; exact hP9, va_K.moved hW.alike hK9, hD9⟩, hS.F ht⟩) hS.2.2 dX11_end_20
    · skip
      have rl9 : x1.toInt < x0.toInt := iv_nle2 c5
      have j10 : iv x0 1 2147483647 := iv_nleL j4 ix1 c5 (by decide)
      refine lv_iconst (v := 0) hx hb dX11_end_12 (by decide) ?_
      rw [hQ]
      obtain ⟨hP9, hD9⟩ := nv_sub2 (wc := [(h0, .inr (11, [.ref h1, .ref h2, .ref h3, .ref h4, .ref h5, .int x1, .int x2]))]) hP hD [0] (by decide) rfl
      have hK9 := hK.sub (tys' := []) [] rfl
      have kc0 : (0 : Int32).toInt = 0 := by decide
      have oh11 : (0 ≤ x0.toInt ∧ x0.toInt ≤ x1.toInt ∧ x1.toInt = x0.toInt ∧ (0 : Int32).toInt = 1) ∨ ((x0.toInt < 0 ∨ x1.toInt < x0.toInt) ∧ x1.toInt = x1.toInt ∧ (0 : Int32).toInt = 0) := by omega
      exact W.zret (v := 0) hx hb hr rfl (fun t ht hW => ⟨⟨0, x1, rfl, ⟨iv_w (by decide : iv 0 0 0) (by decide) (by decide), iv_w ix1 (by decide) (by decide), oh11, trivial⟩, by rw [ht]; exact hP9, va_K.moved hW.alike hK9, hD9⟩, hS.F ht⟩) hS.2.2 dX11_end_13
set_option maxHeartbeats 100000000 in
set_option maxRecDepth 100000 in
theorem cX12_end_1 (l : Launch) (dC : Nat → ClassId) (dI : Nat → Nat → Nat) (h0 h1 h2 h3 h4 h5 h6 h7 h8 h9 h10 h11 h12 h13 h14 h15 h16 h17 : Nat) (sz : Nat) (x0 x1 x2 x3 x4 x5 x6 x7 x8 x9 x10 x11 x12 x13 x14 x15 x16 x17 x18 x19 x20 x21 x22 x23 x24 x25 x26 x27 x28 x29 x30 x31 x32 x33 x34 x35 x36 x37 x38 x39 x40 x41 x42 x43 x44 x45 x46 x47 x48 x49 x50 x51 x52 x53 x54 : Int32) (z0 : Int64) (ix16 : iv x16 0 1) (ix17 : iv x17 0 40) (ix22 : iv x22 0 65535) (ix23 : iv x23 0 1) (ix24 : iv x24 0 1) (ix25 : iv x25 0 2600) (ix26 : iv x26 0 2600) (ix27 : iv x27 0 2500) (ix28 : iv x28 0 2500) (ix32 : iv x32 0 1048575) (ix33 : iv x33 0 60) (ix34 : iv x34 0 60) (ix35 : iv x35 0 1) (ix36 : iv x36 0 1) (ix37 : iv x37 0 65535) (ix42 : iv x42 0 5200) (ix43 : iv x43 0 70800) (ix47 : iv x47 0 1) (ix48 : iv x48 0 1) (ix50 : iv x50 0 100) (ix54 : iv x54 0 1) : Met l yX12_end (Cond.code yX12_end cX12_end 2 (some .boolean) :: lw_G) ({ frames := 0, cells := 0, slots := 0, locals := 0 }) (va_Pc [.ref h0, .int x0] (fun U => U.heap.size = sz ∧ va_P (dC, dI) vwCl [(h0, .inr (12, .int x1 :: .ref h1 :: .ref h2 :: .int x2 :: .int x3 :: .int x4 :: .int x5 :: .int x6 :: .int x7 :: .int x8 :: .int x9 :: .int x10 :: [.int x11, .int x12, .int x13, .int x14, .int x15, .int x16, .ref h3, .ref h4, .ref h5, .ref h6, .int x17, .int x18, .int x19, .int x20, .int x21, .int x22, .int x23, .int x24, .ref h7, .int x25, .int x26, .int x27, .int x28, .ref h8, .ref h9, .int x29, .int x30, .long z0, .int x31, .int x32, .ref h10, .ref h11, .ref h12, .ref h13, .ref h14, .int x33, .int x34, .int x35, .int x36, .int x37, .int x38, .int x39, .int x40, .int x41, .ref h15, .ref h16, .int x42, .int x43, .int x44, .int x45, .int x46, .int x47, .int x48, .int x49, .ref h17, .int x50, .int x51, .int x52, .int x53, .int x54]))] U.heap ∧ va_K (dC, dI) vwCl [] U ∧ va_D (fun _ => True) [(h0, .inr (12, .int x1 :: .ref h1 :: .ref h2 :: .int x2 :: .int x3 :: .int x4 :: .int x5 :: .int x6 :: .int x7 :: .int x8 :: .int x9 :: .int x10 :: [.int x11, .int x12, .int x13, .int x14, .int x15, .int x16, .ref h3, .ref h4, .ref h5, .ref h6, .int x17, .int x18, .int x19, .int x20, .int x21, .int x22, .int x23, .int x24, .ref h7, .int x25, .int x26, .int x27, .int x28, .ref h8, .ref h9, .int x29, .int x30, .long z0, .int x31, .int x32, .ref h10, .ref h11, .ref h12, .ref h13, .ref h14, .int x33, .int x34, .int x35, .int x36, .int x37, .int x38, .int x39, .int x40, .int x41, .ref h15, .ref h16, .int x42, .int x43, .int x44, .int x45, .int x46, .int x47, .int x48, .int x49, .ref h17, .int x50, .int x51, .int x52, .int x53, .int x54]))])) (va_Qi (fun (r : Int32) (u : Int32) => iv r 0 1 ∧ iv u 0 2600 ∧ ((0 ≤ x0.toInt ∧ x0.toInt ≤ x25.toInt ∧ u.toInt = x0.toInt ∧ r.toInt = 1) ∨ ((x0.toInt < 0 ∨ x25.toInt < x0.toInt) ∧ u.toInt = x25.toInt ∧ r.toInt = 0)) ∧ True) (fun (u : Int32) (t : State) => va_P (dC, dI) vwCl [(h0, .inr (12, .int 0 :: .ref h1 :: .ref h2 :: .int x2 :: .int x3 :: .int x4 :: .int x5 :: .int x6 :: .int x7 :: .int x8 :: .int x9 :: .int x10 :: [.int x11, .int x12, .int x13, .int x14, .int x15, .int x16, .ref h3, .ref h4, .ref h5, .ref h6, .int x17, .int x18, .int x19, .int x20, .int x21, .int x22, .int x23, .int x24, .ref h7, .int u, .int x26, .int x27, .int x28, .ref h8, .ref h9, .int x29, .int x30, .long z0, .int x31, .int x32, .ref h10, .ref h11, .ref h12, .ref h13, .ref h14, .int x33, .int x34, .int x35, .int x36, .int x37, .int x38, .int x39, .int x40, .int x41, .ref h15, .ref h16, .int x42, .int x43, .int x44, .int x45, .int x46, .int x47, .int x48, .int x49, .ref h17, .int x50, .int x51, .int x52, .int x53, .int x54]))] t.heap ∧ va_K (dC, dI) vwCl [] t ∧ va_D (va_A [(h0, .inr (12, .int x1 :: .ref h1 :: .ref h2 :: .int x2 :: .int x3 :: .int x4 :: .int x5 :: .int x6 :: .int x7 :: .int x8 :: .int x9 :: .int x10 :: [.int x11, .int x12, .int x13, .int x14, .int x15, .int x16, .ref h3, .ref h4, .ref h5, .ref h6, .int x17, .int x18, .int x19, .int x20, .int x21, .int x22, .int x23, .int x24, .ref h7, .int x25, .int x26, .int x27, .int x28, .ref h8, .ref h9, .int x29, .int x30, .long z0, .int x31, .int x32, .ref h10, .ref h11, .ref h12, .ref h13, .ref h14, .int x33, .int x34, .int x35, .int x36, .int x37, .int x38, .int x39, .int x40, .int x41, .ref h15, .ref h16, .int x42, .int x43, .int x44, .int x45, .int x46, .int x47, .int x48, .int x49, .ref h17, .int x50, .int x51, .int x52, .int x53, .int x54]))] sz) [(h0, .inr (12, .int 0 :: .ref h1 :: .ref h2 :: .int x2 :: .int x3 :: .int x4 :: .int x5 :: .int x6 :: .int x7 :: .int x8 :: .int x9 :: .int x10 :: [.int x11, .int x12, .int x13, .int x14, .int x15, .int x16, .ref h3, .ref h4, .ref h5, .ref h6, .int x17, .int x18, .int x19, .int x20, .int x21, .int x22, .int x23, .int x24, .ref h7, .int u, .int x26, .int x27, .int x28, .ref h8, .ref h9, .int x29, .int x30, .long z0, .int x31, .int x32, .ref h10, .ref h11, .ref h12, .ref h13, .ref h14, .int x33, .int x34, .int x35, .int x36, .int x37, .int x38, .int x39, .int x40, .int x41, .ref h15, .ref h16, .int x42, .int x43, .int x44, .int x45, .int x46, .int x47, .int x48, .int x49, .ref h17, .int x50, .int x51, .int x52, .int x53, .int x54]))]) (va_A [(h0, .inr (12, .int x1 :: .ref h1 :: .ref h2 :: .int x2 :: .int x3 :: .int x4 :: .int x5 :: .int x6 :: .int x7 :: .int x8 :: .int x9 :: .int x10 :: [.int x11, .int x12, .int x13, .int x14, .int x15, .int x16, .ref h3, .ref h4, .ref h5, .ref h6, .int x17, .int x18, .int x19, .int x20, .int x21, .int x22, .int x23, .int x24, .ref h7, .int x25, .int x26, .int x27, .int x28, .ref h8, .ref h9, .int x29, .int x30, .long z0, .int x31, .int x32, .ref h10, .ref h11, .ref h12, .ref h13, .ref h14, .int x33, .int x34, .int x35, .int x36, .int x37, .int x38, .int x39, .int x40, .int x41, .ref h15, .ref h16, .int x42, .int x43, .int x44, .int x45, .int x46, .int x47, .int x48, .int x49, .ref h17, .int x50, .int x51, .int x52, .int x53, .int x54]))] sz)) 0 0 (va_A [(h0, .inr (12, .int x1 :: .ref h1 :: .ref h2 :: .int x2 :: .int x3 :: .int x4 :: .int x5 :: .int x6 :: .int x7 :: .int x8 :: .int x9 :: .int x10 :: [.int x11, .int x12, .int x13, .int x14, .int x15, .int x16, .ref h3, .ref h4, .ref h5, .ref h6, .int x17, .int x18, .int x19, .int x20, .int x21, .int x22, .int x23, .int x24, .ref h7, .int x25, .int x26, .int x27, .int x28, .ref h8, .ref h9, .int x29, .int x30, .long z0, .int x31, .int x32, .ref h10, .ref h11, .ref h12, .ref h13, .ref h14, .int x33, .int x34, .int x35, .int x36, .int x37, .int x38, .int x39, .int x40, .int x41, .ref h15, .ref h16, .int x42, .int x43, .int x44, .int x45, .int x46, .int x47, .int x48, .int x49, .ref h17, .int x50, .int x51, .int x52, .int x53, .int x54]))] sz) := by
  refine Met.ofW (cc := cX12_end) (maxL := 2) (ret := (some .boolean)) (by decide) rfl ?_
  intro p e s m args below meth c s₁ B hml hv
  obtain ⟨rfl, hsz, hP, hK, hD0⟩ := hv
  have hx := B.exec
  have hb := B.bytes
  have hr := B.returns
  have hts0 := atoms_spec (ws := Cond.code yX12_end cX12_end 2 (some .boolean) :: lw_G) B.pre
  have hG : ∀ w ∈ lw_G, w.before _ s = true := fun w h => hts0 w (List.mem_cons_of_mem _ h)
  have hown : s.vm.findClass RX12 = some m.cls := findClass_of_methodNamed B.named
  have hlocks := B.notSynchronized
  subst hsz
  have hD := hD0.self (sz := s.heap.size)
  generalize hAe : va_A [(h0, .inr (12, .int x1 :: .ref h1 :: .ref h2 :: .int x2 :: .int x3 :: .int x4 :: .int x5 :: .int x6 :: .int x7 :: .int x8 :: .int x9 :: .int x10 :: [.int x11, .int x12, .int x13, .int x14, .int x15, .int x16, .ref h3, .ref h4, .ref h5, .ref h6, .int x17, .int x18, .int x19, .int x20, .int x21, .int x22, .int x23, .int x24, .ref h7, .int x25, .int x26, .int x27, .int x28, .ref h8, .ref h9, .int x29, .int x30, .long z0, .int x31, .int x32, .ref h10, .ref h11, .ref h12, .ref h13, .ref h14, .int x33, .int x34, .int x35, .int x36, .int x37, .int x38, .int x39, .int x40, .int x41, .ref h15, .ref h16, .int x42, .int x43, .int x44, .int x45, .int x46, .int x47, .int x48, .int x49, .ref h17, .int x50, .int x51, .int x52, .int x53, .int x54]))] s.heap.size = A at hD ⊢
  have hA : ∀ q : Nat, s.heap.size ≤ q → A q := fun q h => by rw [← hAe]; exact Or.inr h
  have hS : va_S A s.heap s.heap [] := va_S.rf
  have hP : va_P (dC, dI) vwCl [(h0, .inr (12, .int x1 :: .ref h1 :: .ref h2 :: .int x2 :: .int x3 :: .int x4 :: .int x5 :: .int x6 :: .int x7 :: .int x8 :: .int x9 :: .int x10 :: [.int x11, .int x12, .int x13, .int x14, .int x15, .int x16, .ref h3, .ref h4, .ref h5, .ref h6, .int x17, .int x18, .int x19, .int x20, .int x21, .int x22, .int x23, .int x24, .ref h7, .int x25, .int x26, .int x27, .int x28, .ref h8, .ref h9, .int x29, .int x30, .long z0, .int x31, .int x32, .ref h10, .ref h11, .ref h12, .ref h13, .ref h14, .int x33, .int x34, .int x35, .int x36, .int x37, .int x38, .int x39, .int x40, .int x41, .ref h15, .ref h16, .int x42, .int x43, .int x44, .int x45, .int x46, .int x47, .int x48, .int x49, .ref h17, .int x50, .int x51, .int x52, .int x53, .int x54]))] s.heap := hP
  have hl := lv_entry ([.ref h0, .int x0]) (n := 2) (Nat.le_of_ble_eq_true rfl)
  rw [lg_entry_eq]
  generalize (lg_sl ([.ref h0, .int x0]) ++ List.replicate (2 - (lg_sl ([.ref h0, .int x0])).length) Slot.unset).toArray = ls at hl ⊢
  have hl : lv_has ls 2 [(0, .ref h0), (1, .int x0)] := hl
  generalize ([.ref h0, .int x0] : List Value).toArray = ar at hG ⊢
  refine wq (fun Q hQ => ?_)
  refine lv_aload_n hx hb dX12_end_0 rfl (lv_at hl 0 rfl) ?_
  refine lv_iconst (v := 0) hx hb dX12_end_1 (by decide) ?_
  refine va_put (D := (dC, dI)) (ci := 12) (v := .int 0) (ty := .int) (C := RX12) (T := TX12) (N := 72) hx hb hG inGX12 tyX12 tyX12_ok nmX12 hown hK hP hD hS 0 rfl rfl 0 (by decide) (hG _ wd_1307) (fun _ h9 => h9) rfl (by decide +kernel) rfl rfl (Nat.le_of_ble_eq_true rfl) dX12_end_2 (fun H locs hP hD hS => ?_)
  obtain ⟨hP, hD⟩ := nv_eq (ws' := [(h0, .inr (12, .int 0 :: .ref h1 :: .ref h2 :: .int x2 :: .int x3 :: .int x4 :: .int x5 :: .int x6 :: .int x7 :: .int x8 :: .int x9 :: .int x10 :: [.int x11, .int x12, .int x13, .int x14, .int x15, .int x16, .ref h3, .ref h4, .ref h5, .ref h6, .int x17, .int x18, .int x19, .int x20, .int x21, .int x22, .int x23, .int x24, .ref h7, .int x25, .int x26, .int x27, .int x28, .ref h8, .ref h9, .int x29, .int x30, .long z0, .int x31, .int x32, .ref h10, .ref h11, .ref h12, .ref h13, .ref h14, .int x33, .int x34, .int x35, .int x36, .int x37, .int x38, .int x39, .int x40, .int x41, .ref h15, .ref h16, .int x42, .int x43, .int x44, .int x45, .int x46, .int x47, .int x48, .int x49, .ref h17, .int x50, .int x51, .int x52, .int x53, .int x54]))]) hP hD rfl
  refine lv_iload_n hx hb dX12_end_5 rfl (lv_at hl 1 rfl) ?_
  refine lv_if_lt (tgt := 17) hx hb dX12_end_6 (by decide) (fun c1 => ?_) (fun c1 => ?_)
  · skip
    have j2 : iv x0 (-2147483648) (-1) := iv_ltL (iv_any x0) (by decide : iv 0 0 0) c1 (by decide)
    refine lv_iconst (v := 0) hx hb dX12_end_17 (by decide) ?_
    rw [hQ]
    obtain ⟨hP9, hD9⟩ := nv_sub2 (wc := [(h0, .inr (12, .int 0 :: .ref h1 :: .ref h2 :: .int x2 :: .int x3 :: .int x4 :: .int x5 :: .int x6 :: .int x7 :: .int x8 :: .int x9 :: .int x10 :: [.int x11, .int x12, .int x13, .int x14, .int x15, .int x16, .ref h3, .ref h4, .ref h5, .ref h6, .int x17, .int x18, .int x19, .int x20, .int x21, .int x22, .int x23, .int x24, .ref h7, .int x25, .int x26, .int x27, .int x28, .ref h8, .ref h9, .int x29, .int x30, .long z0, .int x31, .int x32, .ref h10, .ref h11, .ref h12, .ref h13, .ref h14, .int x33, .int x34, .int x35, .int x36, .int x37, .int x38, .int x39, .int x40, .int x41, .ref h15, .ref h16, .int x42, .int x43, .int x44, .int x45, .int x46, .int x47, .int x48, .int x49, .ref h17, .int x50, .int x51, .int x52, .int x53, .int x54]))]) hP hD [0] (by decide) rfl
    have hK9 := hK.sub (tys' := []) [] rfl
    have kc0 : (0 : Int32).toInt = 0 := by decide
    have oh3 : (0 ≤ x0.toInt ∧ x0.toInt ≤ x25.toInt ∧ x25.toInt = x0.toInt ∧ (0 : Int32).toInt = 1) ∨ ((x0.toInt < 0 ∨ x25.toInt < x0.toInt) ∧ x25.toInt = x25.toInt ∧ (0 : Int32).toInt = 0) := by omega
    exact W.zret (v := 0) hx hb hr rfl (fun t ht hW => ⟨⟨0, x25, rfl, ⟨iv_w (by decide : iv 0 0 0) (by decide) (by decide), iv_w ix25 (by decide) (by decide), oh3, trivial⟩, by rw [ht]; exact hP9, va_K.moved hW.alike hK9, hD9⟩, hS.F ht⟩) hS.2.2 dX12_end_18
  · skip
    have j4 : iv x0 0 2147483647 := iv_nltL (iv_any x0) (by decide : iv 0 0 0) c1 (by decide)
    refine lv_iload_n hx hb dX12_end_9 rfl (lv_at hl 1 rfl) ?_
    refine lv_aload_n hx hb dX12_end_10 rfl (lv_at hl 0 rfl) ?_
    refine va_get (D := (dC, dI)) (ci := 12) (v := .int x25) (C := RX12) (T := TX12) (N := 72) hx hb hG inGX12 hown hK hP 0 rfl rfl 31 (by decide) (hG _ wd_1338) (fun _ h9 => h9) rfl dX12_end_11 ?_
    refine lv_icmp_le (tgt := 19) hx hb dX12_end_14 (by decide) (fun c5 => ?_) (fun c5 => ?_)
    · skip
      have rl6 : x0.toInt ≤ x25.toInt := Int32.le_iff_toInt_le.mp c5
      have j7 : iv x0 0 2600 := iv_leL j4 ix25 c5 (by decide)
      refine lv_aload_n hx hb dX12_end_19 rfl (lv_at hl 0 rfl) ?_
      refine lv_iload_n hx hb dX12_end_20 rfl (lv_at hl 1 rfl) ?_
      refine va_put (D := (dC, dI)) (ci := 12) (v := .int x0) (ty := .int) (C := RX12) (T := TX12) (N := 72) hx hb hG inGX12 tyX12 tyX12_ok nmX12 hown hK hP hD hS 0 rfl rfl 31 (by decide) (hG _ wd_1338) (fun _ h9 => h9) rfl (by decide +kernel) rfl rfl (Nat.le_of_ble_eq_true rfl) dX12_end_21 (fun H locs hP hD hS => ?_)
      obtain ⟨hP, hD⟩ := nv_eq (ws' := [(h0, .inr (12, .int 0 :: .ref h1 :: .ref h2 :: .int x2 :: .int x3 :: .int x4 :: .int x5 :: .int x6 :: .int x7 :: .int x8 :: .int x9 :: .int x10 :: [.int x11, .int x12, .int x13, .int x14, .int x15, .int x16, .ref h3, .ref h4, .ref h5, .ref h6, .int x17, .int x18, .int x19, .int x20, .int x21, .int x22, .int x23, .int x24, .ref h7, .int x0, .int x26, .int x27, .int x28, .ref h8, .ref h9, .int x29, .int x30, .long z0, .int x31, .int x32, .ref h10, .ref h11, .ref h12, .ref h13, .ref h14, .int x33, .int x34, .int x35, .int x36, .int x37, .int x38, .int x39, .int x40, .int x41, .ref h15, .ref h16, .int x42, .int x43, .int x44, .int x45, .int x46, .int x47, .int x48, .int x49, .ref h17, .int x50, .int x51, .int x52, .int x53, .int x54]))]) hP hD rfl
      refine lv_iconst (v := 1) hx hb dX12_end_24 (by decide) ?_
      rw [hQ]
      obtain ⟨hP9, hD9⟩ := nv_sub2 (wc := [(h0, .inr (12, .int 0 :: .ref h1 :: .ref h2 :: .int x2 :: .int x3 :: .int x4 :: .int x5 :: .int x6 :: .int x7 :: .int x8 :: .int x9 :: .int x10 :: [.int x11, .int x12, .int x13, .int x14, .int x15, .int x16, .ref h3, .ref h4, .ref h5, .ref h6, .int x17, .int x18, .int x19, .int x20, .int x21, .int x22, .int x23, .int x24, .ref h7, .int x0, .int x26, .int x27, .int x28, .ref h8, .ref h9, .int x29, .int x30, .long z0, .int x31, .int x32, .ref h10, .ref h11, .ref h12, .ref h13, .ref h14, .int x33, .int x34, .int x35, .int x36, .int x37, .int x38, .int x39, .int x40, .int x41, .ref h15, .ref h16, .int x42, .int x43, .int x44, .int x45, .int x46, .int x47, .int x48, .int x49, .ref h17, .int x50, .int x51, .int x52, .int x53, .int x54]))]) hP hD [0] (by decide) rfl
      have hK9 := hK.sub (tys' := []) [] rfl
      have kc1 : (1 : Int32).toInt = 1 := by decide
      have oh8 : (0 ≤ x0.toInt ∧ x0.toInt ≤ x25.toInt ∧ x0.toInt = x0.toInt ∧ (1 : Int32).toInt = 1) ∨ ((x0.toInt < 0 ∨ x25.toInt < x0.toInt) ∧ x0.toInt = x25.toInt ∧ (1 : Int32).toInt = 0) := by omega
      exact W.zret (v := 1) hx hb hr rfl (fun t ht hW => ⟨⟨1, x0, rfl, ⟨iv_w (by decide : iv 1 1 1) (by decide) (by decide), iv_w j7 (by decide) (by decide), oh8, trivial⟩, by rw [ht]; exact hP9, va_K.moved hW.alike hK9, hD9⟩, hS.F ht⟩) hS.2.2 dX12_end_25
    · skip
      have rl9 : x25.toInt < x0.toInt := iv_nle2 c5
      have j10 : iv x0 1 2147483647 := iv_nleL j4 ix25 c5 (by decide)
      refine lv_iconst (v := 0) hx hb dX12_end_17 (by decide) ?_
      rw [hQ]
      obtain ⟨hP9, hD9⟩ := nv_sub2 (wc := [(h0, .inr (12, .int 0 :: .ref h1 :: .ref h2 :: .int x2 :: .int x3 :: .int x4 :: .int x5 :: .int x6 :: .int x7 :: .int x8 :: .int x9 :: .int x10 :: [.int x11, .int x12, .int x13, .int x14, .int x15, .int x16, .ref h3, .ref h4, .ref h5, .ref h6, .int x17, .int x18, .int x19, .int x20, .int x21, .int x22, .int x23, .int x24, .ref h7, .int x25, .int x26, .int x27, .int x28, .ref h8, .ref h9, .int x29, .int x30, .long z0, .int x31, .int x32, .ref h10, .ref h11, .ref h12, .ref h13, .ref h14, .int x33, .int x34, .int x35, .int x36, .int x37, .int x38, .int x39, .int x40, .int x41, .ref h15, .ref h16, .int x42, .int x43, .int x44, .int x45, .int x46, .int x47, .int x48, .int x49, .ref h17, .int x50, .int x51, .int x52, .int x53, .int x54]))]) hP hD [0] (by decide) rfl
      have hK9 := hK.sub (tys' := []) [] rfl
      have kc0 : (0 : Int32).toInt = 0 := by decide
      have oh11 : (0 ≤ x0.toInt ∧ x0.toInt ≤ x25.toInt ∧ x25.toInt = x0.toInt ∧ (0 : Int32).toInt = 1) ∨ ((x0.toInt < 0 ∨ x25.toInt < x0.toInt) ∧ x25.toInt = x25.toInt ∧ (0 : Int32).toInt = 0) := by omega
      exact W.zret (v := 0) hx hb hr rfl (fun t ht hW => ⟨⟨0, x25, rfl, ⟨iv_w (by decide : iv 0 0 0) (by decide) (by decide), iv_w ix25 (by decide) (by decide), oh11, trivial⟩, by rw [ht]; exact hP9, va_K.moved hW.alike hK9, hD9⟩, hS.F ht⟩) hS.2.2 dX12_end_18
set_option maxHeartbeats 100000000 in
set_option maxRecDepth 100000 in
theorem cX10_sign_1 (l : Launch) (dC : Nat → ClassId) (dI : Nat → Nat → Nat) (h0 h1 h2 h3 h4 h5 h6 : Nat) (y0 : ClassId) (sz : Nat) (x0 x1 x2 x3 x4 x5 : Int32) (z0 : Int64) (f0 : Nat → Int32) (ix1 : iv x1 0 2600) (ix2 : iv x2 0 2501) (ix3 : iv x3 0 2500) : Met l yX10_sign (Cond.code yX10_sign cX10_sign 2 (some .int) :: lw_G) ({ frames := 0, cells := 0, slots := 0, locals := 0 }) (va_Pc [.ref h0, .int x0] (fun U => U.heap.size = sz ∧ va_P (dC, dI) vwCl [(h0, .inr (10, [.ref h1, .ref h2, .ref h3, .ref h4, .ref h5, .ref h6, .int x1, .int x2, .int x3, .int x4, .int x5, .long z0])), (h6, .inl (y0, 2600, .inl f0))] U.heap ∧ va_K (dC, dI) vwCl [(y0, .int)] U ∧ va_D (fun _ => True) [(h0, .inr (10, [.ref h1, .ref h2, .ref h3, .ref h4, .ref h5, .ref h6, .int x1, .int x2, .int x3, .int x4, .int x5, .long z0])), (h6, .inl (y0, 2600, .inl f0))])) (va_Qi (fun (r : Int32) (u : Unit) => True) (fun (u : Unit) (t : State) => va_P (dC, dI) vwCl [(h0, .inr (10, [.ref h1, .ref h2, .ref h3, .ref h4, .ref h5, .ref h6, .int x1, .int x2, .int x3, .int x4, .int x5, .long z0])), (h6, .inl (y0, 2600, .inl f0))] t.heap ∧ va_K (dC, dI) vwCl [(y0, .int)] t ∧ va_D (va_A [(h0, .inr (10, [.ref h1, .ref h2, .ref h3, .ref h4, .ref h5, .ref h6, .int x1, .int x2, .int x3, .int x4, .int x5, .long z0])), (h6, .inl (y0, 2600, .inl f0))] sz) [(h0, .inr (10, [.ref h1, .ref h2, .ref h3, .ref h4, .ref h5, .ref h6, .int x1, .int x2, .int x3, .int x4, .int x5, .long z0])), (h6, .inl (y0, 2600, .inl f0))]) (va_A [(h0, .inr (10, [.ref h1, .ref h2, .ref h3, .ref h4, .ref h5, .ref h6, .int x1, .int x2, .int x3, .int x4, .int x5, .long z0])), (h6, .inl (y0, 2600, .inl f0))] sz)) 0 0 (va_A [(h0, .inr (10, [.ref h1, .ref h2, .ref h3, .ref h4, .ref h5, .ref h6, .int x1, .int x2, .int x3, .int x4, .int x5, .long z0])), (h6, .inl (y0, 2600, .inl f0))] sz) := by
  refine Met.ofW (cc := cX10_sign) (maxL := 2) (ret := (some .int)) (by decide) rfl ?_
  intro p e s m args below meth c s₁ B hml hv
  obtain ⟨rfl, hsz, hP, hK, hD0⟩ := hv
  have hx := B.exec
  have hb := B.bytes
  have hr := B.returns
  have hts0 := atoms_spec (ws := Cond.code yX10_sign cX10_sign 2 (some .int) :: lw_G) B.pre
  have hG : ∀ w ∈ lw_G, w.before _ s = true := fun w h => hts0 w (List.mem_cons_of_mem _ h)
  have hown : s.vm.findClass RX10 = some m.cls := findClass_of_methodNamed B.named
  have hlocks := B.notSynchronized
  subst hsz
  have hD := hD0.self (sz := s.heap.size)
  generalize hAe : va_A [(h0, .inr (10, [.ref h1, .ref h2, .ref h3, .ref h4, .ref h5, .ref h6, .int x1, .int x2, .int x3, .int x4, .int x5, .long z0])), (h6, .inl (y0, 2600, .inl f0))] s.heap.size = A at hD ⊢
  have hA : ∀ q : Nat, s.heap.size ≤ q → A q := fun q h => by rw [← hAe]; exact Or.inr h
  have hS : va_S A s.heap s.heap [] := va_S.rf
  have hP : va_P (dC, dI) vwCl [(h0, .inr (10, [.ref h1, .ref h2, .ref h3, .ref h4, .ref h5, .ref h6, .int x1, .int x2, .int x3, .int x4, .int x5, .long z0])), (h6, .inl (y0, 2600, .inl f0))] s.heap := hP
  have hl := lv_entry ([.ref h0, .int x0]) (n := 2) (Nat.le_of_ble_eq_true rfl)
  rw [lg_entry_eq]
  generalize (lg_sl ([.ref h0, .int x0]) ++ List.replicate (2 - (lg_sl ([.ref h0, .int x0])).length) Slot.unset).toArray = ls at hl ⊢
  have hl : lv_has ls 2 [(0, .ref h0), (1, .int x0)] := hl
  generalize ([.ref h0, .int x0] : List Value).toArray = ar at hG ⊢
  refine wq (fun Q hQ => ?_)
  refine lv_iload_n hx hb dX10_sign_0 rfl (lv_at hl 1 rfl) ?_
  refine jcut (a := ∀ (b10 : Int32) (H : Heap) (locs : List Loc) (hK : va_K (dC, dI) vwCl [(y0, .int)] s) (hP : va_P (dC, dI) vwCl [(h0, .inr (10, [.ref h1, .ref h2, .ref h3, .ref h4, .ref h5, .ref h6, .int x1, .int x2, .int x3, .int x4, .int x5, .long z0])), (h6, .inl (y0, 2600, .inl f0))] H) (hD : va_D A [(h0, .inr (10, [.ref h1, .ref h2, .ref h3, .ref h4, .ref h5, .ref h6, .int x1, .int x2, .int x3, .int x4, .int x5, .long z0])), (h6, .inl (y0, 2600, .inl f0))]) (hS : va_S A s.heap H locs) (ls : Array Slot) (hl : lv_has ls 2 []), W p l e (headSpec (Cond.code yX10_sign cX10_sign 2 (some .int) :: lw_G) ({ frames := 0, cells := 0, slots := 0, locals := 0 })).room s m ar below meth c H locs 0 0 Q (F0 m 22 ls [.int b10])) ?_ (fun j11 => ?_)
  · skip
    intro b10 H locs hK hP hD hS ls hl
    rw [hQ]
    obtain ⟨hP9, hD9⟩ := nv_sub2 (wc := [(h0, .inr (10, [.ref h1, .ref h2, .ref h3, .ref h4, .ref h5, .ref h6, .int x1, .int x2, .int x3, .int x4, .int x5, .long z0])), (h6, .inl (y0, 2600, .inl f0))]) hP hD [0, 1] (by decide) rfl
    have hK9 := hK.sub (tys' := [(y0, .int)]) [0] rfl
    exact W.iret (v := b10) hx hb hr (fun t ht hW => ⟨⟨b10, (), rfl, trivial, by rw [ht]; exact hP9, va_K.moved hW.alike hK9, hD9⟩, hS.F ht⟩) hS.2.2 dX10_sign_22
  refine lv_if_lt (tgt := 21) hx hb dX10_sign_1 (by decide) (fun c1 => ?_) (fun c1 => ?_)
  · skip
    have j12 : iv x0 (-2147483648) (-1) := iv_ltL (iv_any x0) (by decide : iv 0 0 0) c1 (by decide)
    refine lv_iconst (v := (-1)) hx hb dX10_sign_21 (by decide) ?_
    exact j11 (-1) _ _ hK hP hD hS ls (lv_sub hl [] rfl)
  · skip
    have j13 : iv x0 0 2147483647 := iv_nltL (iv_any x0) (by decide : iv 0 0 0) c1 (by decide)
    refine lv_iload_n hx hb dX10_sign_4 rfl (lv_at hl 1 rfl) ?_
    refine lv_aload_n hx hb dX10_sign_5 rfl (lv_at hl 0 rfl) ?_
    refine va_get (D := (dC, dI)) (ci := 10) (v := .int x1) (C := RX10) (T := TX10) (N := 12) hx hb hG inGX10 hown hK hP 0 rfl rfl 6 (by decide) (hG _ wd_289) (fun _ h9 => h9) rfl dX10_sign_6 ?_
    refine lv_icmp_ge (tgt := 21) hx hb dX10_sign_9 (by decide) (fun c14 => ?_) (fun c14 => ?_)
    · skip
      have rl15 : x1.toInt ≤ x0.toInt := Int32.le_iff_toInt_le.mp c14
      refine lv_iconst (v := (-1)) hx hb dX10_sign_21 (by decide) ?_
      exact j11 (-1) _ _ hK hP hD hS ls (lv_sub hl [] rfl)
    · skip
      have rl16 : x0.toInt < x1.toInt := iv_nle2 c14
      have j17 : iv x1 1 2600 := iv_nleL ix1 j13 c14 (by decide)
      have j18 : iv x0 0 2599 := iv_nleR ix1 j13 c14 (by decide)
      refine lv_aload_n hx hb dX10_sign_12 rfl (lv_at hl 0 rfl) ?_
      refine va_get (D := (dC, dI)) (ci := 10) (v := .ref h6) (C := RX10) (T := TX10) (N := 12) hx hb hG inGX10 hown hK hP 0 rfl rfl 5 (by decide) (hG _ wd_288) (fun _ h9 => h9) rfl dX10_sign_13 ?_
      refine lv_iload_n hx hb dX10_sign_16 rfl (lv_at hl 1 rfl) ?_
      refine va_iald hx hb hK hP 1 0 rfl rfl (iv_in j18 (by decide) (by decide) : vp_in x0 2600) dX10_sign_17 ?_
      refine lv_topi (fun v19 ev19 => ?_)
      refine lv_goto (tgt := 22) hx hb dX10_sign_18 (by decide) ?_
      exact j11 v19 _ _ hK hP hD hS ls (lv_sub hl [] rfl)
set_option maxHeartbeats 100000000 in
set_option maxRecDepth 100000 in
theorem cX10_passBlanks_1 (l : Launch) (dC : Nat → ClassId) (dI : Nat → Nat → Nat) (h0 h1 h2 h3 h4 h5 h6 : Nat) (y0 : ClassId) (sz : Nat) (x0 x1 x2 x3 x4 x5 : Int32) (z0 : Int64) (f0 : Nat → Int32) (ix1 : iv x1 0 2600) (ix2 : iv x2 0 2501) (ix3 : iv x3 0 2500) : Met l yX10_passBlanks (Cond.code yX10_passBlanks cX10_passBlanks 3 (some .int) :: lw_G) ({ frames := 1, cells := 0, slots := 0, locals := 21 }) (va_Pc [.ref h0, .int x0] (fun U => U.heap.size = sz ∧ va_P (dC, dI) vwCl [(h0, .inr (10, [.ref h1, .ref h2, .ref h3, .ref h4, .ref h5, .ref h6, .int x1, .int x2, .int x3, .int x4, .int x5, .long z0])), (h6, .inl (y0, 2600, .inl f0))] U.heap ∧ va_K (dC, dI) vwCl [(y0, .int)] U ∧ va_D (fun _ => True) [(h0, .inr (10, [.ref h1, .ref h2, .ref h3, .ref h4, .ref h5, .ref h6, .int x1, .int x2, .int x3, .int x4, .int x5, .long z0])), (h6, .inl (y0, 2600, .inl f0))])) (va_Qi (fun (r : Int32) (u : Unit) => True) (fun (u : Unit) (t : State) => va_P (dC, dI) vwCl [(h0, .inr (10, [.ref h1, .ref h2, .ref h3, .ref h4, .ref h5, .ref h6, .int x1, .int x2, .int x3, .int x4, .int x5, .long z0])), (h6, .inl (y0, 2600, .inl f0))] t.heap ∧ va_K (dC, dI) vwCl [(y0, .int)] t ∧ va_D (va_A [(h0, .inr (10, [.ref h1, .ref h2, .ref h3, .ref h4, .ref h5, .ref h6, .int x1, .int x2, .int x3, .int x4, .int x5, .long z0])), (h6, .inl (y0, 2600, .inl f0))] sz) [(h0, .inr (10, [.ref h1, .ref h2, .ref h3, .ref h4, .ref h5, .ref h6, .int x1, .int x2, .int x3, .int x4, .int x5, .long z0])), (h6, .inl (y0, 2600, .inl f0))]) (va_A [(h0, .inr (10, [.ref h1, .ref h2, .ref h3, .ref h4, .ref h5, .ref h6, .int x1, .int x2, .int x3, .int x4, .int x5, .long z0])), (h6, .inl (y0, 2600, .inl f0))] sz)) 0 0 (va_A [(h0, .inr (10, [.ref h1, .ref h2, .ref h3, .ref h4, .ref h5, .ref h6, .int x1, .int x2, .int x3, .int x4, .int x5, .long z0])), (h6, .inl (y0, 2600, .inl f0))] sz) := by
  refine Met.ofW (cc := cX10_passBlanks) (maxL := 3) (ret := (some .int)) (by decide) rfl ?_
  intro p e s m args below meth c s₁ B hml hv
  obtain ⟨rfl, hsz, hP, hK, hD0⟩ := hv
  have hx := B.exec
  have hb := B.bytes
  have hr := B.returns
  have hts0 := atoms_spec (ws := Cond.code yX10_passBlanks cX10_passBlanks 3 (some .int) :: lw_G) B.pre
  have hG : ∀ w ∈ lw_G, w.before _ s = true := fun w h => hts0 w (List.mem_cons_of_mem _ h)
  have hown : s.vm.findClass RX10 = some m.cls := findClass_of_methodNamed B.named
  have hlocks := B.notSynchronized
  subst hsz
  have hD := hD0.self (sz := s.heap.size)
  generalize hAe : va_A [(h0, .inr (10, [.ref h1, .ref h2, .ref h3, .ref h4, .ref h5, .ref h6, .int x1, .int x2, .int x3, .int x4, .int x5, .long z0])), (h6, .inl (y0, 2600, .inl f0))] s.heap.size = A at hD ⊢
  have hA : ∀ q : Nat, s.heap.size ≤ q → A q := fun q h => by rw [← hAe]; exact Or.inr h
  have hS : va_S A s.heap s.heap [] := va_S.rf
  have hP : va_P (dC, dI) vwCl [(h0, .inr (10, [.ref h1, .ref h2, .ref h3, .ref h4, .ref h5, .ref h6, .int x1, .int x2, .int x3, .int x4, .int x5, .long z0])), (h6, .inl (y0, 2600, .inl f0))] s.heap := hP
  have hl := lv_entry ([.ref h0, .int x0]) (n := 3) (Nat.le_of_ble_eq_true rfl)
  rw [lg_entry_eq]
  generalize (lg_sl ([.ref h0, .int x0]) ++ List.replicate (3 - (lg_sl ([.ref h0, .int x0])).length) Slot.unset).toArray = ls at hl ⊢
  have hl : lv_has ls 3 [(0, .ref h0), (1, .int x0)] := hl
  generalize ([.ref h0, .int x0] : List Value).toArray = ar at hG ⊢
  refine wq (fun Q hQ => ?_)
  refine lv_iload_n hx hb dX10_passBlanks_0 rfl (lv_at hl 1 rfl) ?_
  refine lv_istore_n (lv' := [(2, .int x0), (0, .ref h0), (1, .int x0)]) hx hb dX10_passBlanks_1 rfl hl (by decide) rfl (fun ls hl => ?_)
  refine jcut (a := ∀ (n : Nat) (b34 : Int32) (hm : (2600 - b34.toInt).toNat < n) (H : Heap) (locs : List Loc) (hK : va_K (dC, dI) vwCl [(y0, .int)] s) (hP : va_P (dC, dI) vwCl [(h0, .inr (10, [.ref h1, .ref h2, .ref h3, .ref h4, .ref h5, .ref h6, .int x1, .int x2, .int x3, .int x4, .int x5, .long z0])), (h6, .inl (y0, 2600, .inl f0))] H) (hD : va_D A [(h0, .inr (10, [.ref h1, .ref h2, .ref h3, .ref h4, .ref h5, .ref h6, .int x1, .int x2, .int x3, .int x4, .int x5, .long z0])), (h6, .inl (y0, 2600, .inl f0))]) (hS : va_S A s.heap H locs) (ls : Array Slot) (hl : lv_has ls 3 [(2, .int b34), (0, .ref h0)]), W p l e (headSpec (Cond.code yX10_passBlanks cX10_passBlanks 3 (some .int) :: lw_G) ({ frames := 1, cells := 0, slots := 0, locals := 21 })).room s m ar below meth c H locs 0 0 Q (F0 m 2 ls [])) ?_ (fun lp69 => ?_)
  · skip
    intro n
    induction n with
    | zero => intro b34 hm H locs hK hP hD hS ls hl; exact absurd hm (Nat.not_lt_zero _)
    | succ n ih =>
      intro b34 hm H locs hK hP hD hS ls hl
      refine lv_iload_n hx hb dX10_passBlanks_2 rfl (lv_at hl 0 rfl) ?_
      refine lv_aload_n hx hb dX10_passBlanks_3 rfl (lv_at hl 1 rfl) ?_
      refine va_get (D := (dC, dI)) (ci := 10) (v := .int x1) (C := RX10) (T := TX10) (N := 12) hx hb hG inGX10 hown hK hP 0 rfl rfl 6 (by decide) (hG _ wd_289) (fun _ h9 => h9) rfl dX10_passBlanks_4 ?_
      refine jcut (a := ∀ (H : Heap) (locs : List Loc) (hK : va_K (dC, dI) vwCl [(y0, .int)] s) (hP : va_P (dC, dI) vwCl [(h0, .inr (10, [.ref h1, .ref h2, .ref h3, .ref h4, .ref h5, .ref h6, .int x1, .int x2, .int x3, .int x4, .int x5, .long z0])), (h6, .inl (y0, 2600, .inl f0))] H) (hD : va_D A [(h0, .inr (10, [.ref h1, .ref h2, .ref h3, .ref h4, .ref h5, .ref h6, .int x1, .int x2, .int x3, .int x4, .int x5, .long z0])), (h6, .inl (y0, 2600, .inl f0))]) (hS : va_S A s.heap H locs) (ls : Array Slot) (hl : lv_has ls 3 [(2, .int b34), (0, .ref h0)]), W p l e (headSpec (Cond.code yX10_passBlanks cX10_passBlanks 3 (some .int) :: lw_G) ({ frames := 1, cells := 0, slots := 0, locals := 21 })).room s m ar below meth c H locs 0 0 Q (F0 m 26 ls [])) ?_ (fun j79 => ?_)
      · skip
        intro H locs hK hP hD hS ls hl
        refine lv_aload_n hx hb dX10_passBlanks_26 rfl (lv_at hl 1 rfl) ?_
        refine lv_iload_n hx hb dX10_passBlanks_27 rfl (lv_at hl 0 rfl) ?_
        obtain ⟨hPc, hDc, hFc⟩ := nv_sub3 (wc := [(h0, .inr (10, [.ref h1, .ref h2, .ref h3, .ref h4, .ref h5, .ref h6, .int x1, .int x2, .int x3, .int x4, .int x5, .long z0])), (h6, .inl (y0, 2600, .inl f0))]) hP hD hS hA [0, 1] (by decide) rfl
        have hKc := hK.sub (tys' := [(y0, .int)]) [0] rfl
        refine va_calli (va_runV (As := [.int b34]) (rest := []) ⟨hx, hb, hml, hown, hG⟩ (cX10_sign_1 l dC dI h0 h1 h2 h3 h4 h5 h6 y0 H.size b34 x1 x2 x3 x4 x5 z0 f0 ix1 ix2 ix3) (cwV 1 hG (gV wd_449 wd_451 wp_3 wd_11 wd_452) rfl rfl rfl (by decide +kernel) ⟨Nat.le_of_ble_eq_true rfl, Nat.le_of_ble_eq_true rfl⟩) ⟨fun a U g mk q => by obtain ⟨q0, q1, qP, qK, qD⟩ := q; exact ⟨q0, q1, qP, va_K.moved (u := U) (U := U.calling g mk a) (Vm.Alike.refl U.vm) qK, qD⟩, va_recv hKc hPc (ci := 10) (q0 := 0) rfl rfl, fun U hU hW => ⟨rfl, by rw [hU], by rw [hU]; exact hPc, va_K.moved hW.alike hKc, hDc.weaken (fun _ _ _ _ => trivial)⟩⟩ rfl rfl hl.1 rfl (lv_room (Nat.le_of_ble_eq_true rfl)) dX10_passBlanks_28 ⟨by decide, by decide⟩) hS (fun q _ h => hFc q h) hFc (fun r80 u81 t H1 locs ht hvm hw hB hz1 hk1 hS => ?_)
        obtain ⟨hP1, hK1, hD1⟩ := hB
        rw [ht] at hP1
        have hK1 := va_K.moved hvm.symm hK1
        obtain ⟨hP, hD⟩ := nv_join (wf := [(h0, .inr (10, [.ref h1, .ref h2, .ref h3, .ref h4, .ref h5, .ref h6, .int x1, .int x2, .int x3, .int x4, .int x5, .long z0])), (h6, .inl (y0, 2600, .inl f0))]) hP hD [0, 1] [] rfl rfl (by decide) (by decide) hk1 hFc hP1 hD1 rfl
        have hK := (hK.sub (tys' := []) [] rfl).app hK1
        generalize H1 = H at hP hS ⊢
        have hK : va_K (dC, dI) vwCl [(y0, .int)] s := hK
        refine lv_bipush (v := 59) hx hb dX10_passBlanks_31 (by decide) ?_
        refine jcut (a := ∀ (b103 : Int32) (H : Heap) (locs : List Loc) (hK : va_K (dC, dI) vwCl [(y0, .int)] s) (hP : va_P (dC, dI) vwCl [(h0, .inr (10, [.ref h1, .ref h2, .ref h3, .ref h4, .ref h5, .ref h6, .int x1, .int x2, .int x3, .int x4, .int x5, .long z0])), (h6, .inl (y0, 2600, .inl f0))] H) (hD : va_D A [(h0, .inr (10, [.ref h1, .ref h2, .ref h3, .ref h4, .ref h5, .ref h6, .int x1, .int x2, .int x3, .int x4, .int x5, .long z0])), (h6, .inl (y0, 2600, .inl f0))]) (hS : va_S A s.heap H locs) (ls : Array Slot) (hl : lv_has ls 3 [(2, .int b103)]), W p l e (headSpec (Cond.code yX10_passBlanks cX10_passBlanks 3 (some .int) :: lw_G) ({ frames := 1, cells := 0, slots := 0, locals := 21 })).room s m ar below meth c H locs 0 0 Q (F0 m 60 ls [])) ?_ (fun j104 => ?_)
        · skip
          intro b103 H locs hK hP hD hS ls hl
          refine lv_iload_n hx hb dX10_passBlanks_60 rfl (lv_at hl 0 rfl) ?_
          rw [hQ]
          obtain ⟨hP9, hD9⟩ := nv_sub2 (wc := [(h0, .inr (10, [.ref h1, .ref h2, .ref h3, .ref h4, .ref h5, .ref h6, .int x1, .int x2, .int x3, .int x4, .int x5, .long z0])), (h6, .inl (y0, 2600, .inl f0))]) hP hD [0, 1] (by decide) rfl
          have hK9 := hK.sub (tys' := [(y0, .int)]) [0] rfl
          exact W.iret (v := b103) hx hb hr (fun t ht hW => ⟨⟨b103, (), rfl, trivial, by rw [ht]; exact hP9, va_K.moved hW.alike hK9, hD9⟩, hS.F ht⟩) hS.2.2 dX10_passBlanks_61
        refine lv_icmp_ne (tgt := 60) hx hb dX10_passBlanks_33 (by decide) (fun c82 => ?_) (fun c82 => ?_)
        · skip
          exact j104 b34 _ _ hK hP hD hS ls (lv_sub hl [0] rfl)
        · skip
          subst c82
          refine jcut (a := ∀ (n : Nat) (b114 : Int32) (hm : (2600 - b114.toInt).toNat < n) (H : Heap) (locs : List Loc) (hK : va_K (dC, dI) vwCl [(y0, .int)] s) (hP : va_P (dC, dI) vwCl [(h0, .inr (10, [.ref h1, .ref h2, .ref h3, .ref h4, .ref h5, .ref h6, .int x1, .int x2, .int x3, .int x4, .int x5, .long z0])), (h6, .inl (y0, 2600, .inl f0))] H) (hD : va_D A [(h0, .inr (10, [.ref h1, .ref h2, .ref h3, .ref h4, .ref h5, .ref h6, .int x1, .int x2, .int x3, .int x4, .int x5, .long z0])), (h6, .inl (y0, 2600, .inl f0))]) (hS : va_S A s.heap H locs) (ls : Array Slot) (hl : lv_has ls 3 [(2, .int b114), (0, .ref h0)]), W p l e (headSpec (Cond.code yX10_passBlanks cX10_passBlanks 3 (some .int) :: lw_G) ({ frames := 1, cells := 0, slots := 0, locals := 21 })).room s m ar below meth c H locs 0 0 Q (F0 m 36 ls [])) ?_ (fun lp125 => ?_)
          · skip
            intro n
            induction n with
            | zero => intro b114 hm H locs hK hP hD hS ls hl; exact absurd hm (Nat.not_lt_zero _)
            | succ n ih =>
              intro b114 hm H locs hK hP hD hS ls hl
              refine lv_iload_n hx hb dX10_passBlanks_36 rfl (lv_at hl 0 rfl) ?_
              refine lv_aload_n hx hb dX10_passBlanks_37 rfl (lv_at hl 1 rfl) ?_
              refine va_get (D := (dC, dI)) (ci := 10) (v := .int x1) (C := RX10) (T := TX10) (N := 12) hx hb hG inGX10 hown hK hP 0 rfl rfl 6 (by decide) (hG _ wd_289) (fun _ h9 => h9) rfl dX10_passBlanks_38 ?_
              refine lv_icmp_ge (tgt := 60) hx hb dX10_passBlanks_41 (by decide) (fun c126 => ?_) (fun c126 => ?_)
              · skip
                have rl127 : x1.toInt ≤ b114.toInt := Int32.le_iff_toInt_le.mp c126
                have j128 : iv b114 0 2147483647 := iv_leR ix1 (iv_any b114) c126 (by decide)
                exact j104 b114 _ _ hK hP hD hS ls (lv_sub hl [0] rfl)
              · skip
                have rl129 : b114.toInt < x1.toInt := iv_nle2 c126
                have j130 : iv b114 (-2147483648) 2599 := iv_nleR ix1 (iv_any b114) c126 (by decide)
                refine lv_aload_n hx hb dX10_passBlanks_44 rfl (lv_at hl 1 rfl) ?_
                refine lv_iload_n hx hb dX10_passBlanks_45 rfl (lv_at hl 0 rfl) ?_
                obtain ⟨hPc, hDc, hFc⟩ := nv_sub3 (wc := [(h0, .inr (10, [.ref h1, .ref h2, .ref h3, .ref h4, .ref h5, .ref h6, .int x1, .int x2, .int x3, .int x4, .int x5, .long z0])), (h6, .inl (y0, 2600, .inl f0))]) hP hD hS hA [0, 1] (by decide) rfl
                have hKc := hK.sub (tys' := [(y0, .int)]) [0] rfl
                refine va_calli (va_runV (As := [.int b114]) (rest := []) ⟨hx, hb, hml, hown, hG⟩ (cX10_sign_1 l dC dI h0 h1 h2 h3 h4 h5 h6 y0 H.size b114 x1 x2 x3 x4 x5 z0 f0 ix1 ix2 ix3) (cwV 1 hG (gV wd_449 wd_451 wp_3 wd_11 wd_452) rfl rfl rfl (by decide +kernel) ⟨Nat.le_of_ble_eq_true rfl, Nat.le_of_ble_eq_true rfl⟩) ⟨fun a U g mk q => by obtain ⟨q0, q1, qP, qK, qD⟩ := q; exact ⟨q0, q1, qP, va_K.moved (u := U) (U := U.calling g mk a) (Vm.Alike.refl U.vm) qK, qD⟩, va_recv hKc hPc (ci := 10) (q0 := 0) rfl rfl, fun U hU hW => ⟨rfl, by rw [hU], by rw [hU]; exact hPc, va_K.moved hW.alike hKc, hDc.weaken (fun _ _ _ _ => trivial)⟩⟩ rfl rfl hl.1 rfl (lv_room (Nat.le_of_ble_eq_true rfl)) dX10_passBlanks_46 ⟨by decide, by decide⟩) hS (fun q _ h => hFc q h) hFc (fun r131 u132 t H1 locs ht hvm hw hB hz1 hk1 hS => ?_)
                obtain ⟨hP1, hK1, hD1⟩ := hB
                rw [ht] at hP1
                have hK1 := va_K.moved hvm.symm hK1
                obtain ⟨hP, hD⟩ := nv_join (wf := [(h0, .inr (10, [.ref h1, .ref h2, .ref h3, .ref h4, .ref h5, .ref h6, .int x1, .int x2, .int x3, .int x4, .int x5, .long z0])), (h6, .inl (y0, 2600, .inl f0))]) hP hD [0, 1] [] rfl rfl (by decide) (by decide) hk1 hFc hP1 hD1 rfl
                have hK := (hK.sub (tys' := []) [] rfl).app hK1
                generalize H1 = H at hP hS ⊢
                have hK : va_K (dC, dI) vwCl [(y0, .int)] s := hK
                refine lv_bipush (v := 10) hx hb dX10_passBlanks_49 (by decide) ?_
                refine lv_icmp_eq (tgt := 60) hx hb dX10_passBlanks_51 (by decide) (fun c133 => ?_) (fun c133 => ?_)
                · skip
                  subst c133
                  exact j104 b114 _ _ hK hP hD hS ls (lv_sub hl [0] rfl)
                · skip
                  obtain ⟨v134, ev134⟩ : ∃ y : Int32, y = b114 + Int32.ofInt 1 := ⟨_, rfl⟩
                  have iv134 : iv v134 (-2147483647) 2600 := iv_eq ev134 (iv_add j130 (by decide : iv (Int32.ofInt 1) 1 1) (by decide) (by decide))
                  have tv134 : v134.toInt = b114.toInt + 1 := iv_addT ev134 j130 (by decide) (by decide) (by decide)
                  refine lv_iinc (v := v134) (lv' := [(2, .int v134), (0, .ref h0)]) hx hb dX10_passBlanks_54 hl (k := 0) rfl ev134.symm (by decide) rfl (fun ls hl => ?_)
                  refine lv_goto (tgt := 36) hx hb dX10_passBlanks_57 (by decide) ?_
                  exact ih v134 (by omega) _ _ hK hP hD hS ls hl
          exact lp125 _ b34 (Nat.lt_succ_self _) _ _ hK hP hD hS ls hl
      refine lv_icmp_ge (tgt := 26) hx hb dX10_passBlanks_7 (by decide) (fun c70 => ?_) (fun c70 => ?_)
      · skip
        have rl135 : x1.toInt ≤ b34.toInt := Int32.le_iff_toInt_le.mp c70
        have j136 : iv b34 0 2147483647 := iv_leR ix1 (iv_any b34) c70 (by decide)
        exact j79 _ _ hK hP hD hS ls hl
      · skip
        have rl137 : b34.toInt < x1.toInt := iv_nle2 c70
        have j138 : iv b34 (-2147483648) 2599 := iv_nleR ix1 (iv_any b34) c70 (by decide)
        refine lv_aload_n hx hb dX10_passBlanks_10 rfl (lv_at hl 1 rfl) ?_
        refine lv_iload_n hx hb dX10_passBlanks_11 rfl (lv_at hl 0 rfl) ?_
        obtain ⟨hPc, hDc, hFc⟩ := nv_sub3 (wc := [(h0, .inr (10, [.ref h1, .ref h2, .ref h3, .ref h4, .ref h5, .ref h6, .int x1, .int x2, .int x3, .int x4, .int x5, .long z0])), (h6, .inl (y0, 2600, .inl f0))]) hP hD hS hA [0, 1] (by decide) rfl
        have hKc := hK.sub (tys' := [(y0, .int)]) [0] rfl
        refine va_calli (va_runV (As := [.int b34]) (rest := []) ⟨hx, hb, hml, hown, hG⟩ (cX10_sign_1 l dC dI h0 h1 h2 h3 h4 h5 h6 y0 H.size b34 x1 x2 x3 x4 x5 z0 f0 ix1 ix2 ix3) (cwV 1 hG (gV wd_449 wd_451 wp_3 wd_11 wd_452) rfl rfl rfl (by decide +kernel) ⟨Nat.le_of_ble_eq_true rfl, Nat.le_of_ble_eq_true rfl⟩) ⟨fun a U g mk q => by obtain ⟨q0, q1, qP, qK, qD⟩ := q; exact ⟨q0, q1, qP, va_K.moved (u := U) (U := U.calling g mk a) (Vm.Alike.refl U.vm) qK, qD⟩, va_recv hKc hPc (ci := 10) (q0 := 0) rfl rfl, fun U hU hW => ⟨rfl, by rw [hU], by rw [hU]; exact hPc, va_K.moved hW.alike hKc, hDc.weaken (fun _ _ _ _ => trivial)⟩⟩ rfl rfl hl.1 rfl (lv_room (Nat.le_of_ble_eq_true rfl)) dX10_passBlanks_12 ⟨by decide, by decide⟩) hS (fun q _ h => hFc q h) hFc (fun r139 u140 t H1 locs ht hvm hw hB hz1 hk1 hS => ?_)
        obtain ⟨hP1, hK1, hD1⟩ := hB
        rw [ht] at hP1
        have hK1 := va_K.moved hvm.symm hK1
        obtain ⟨hP, hD⟩ := nv_join (wf := [(h0, .inr (10, [.ref h1, .ref h2, .ref h3, .ref h4, .ref h5, .ref h6, .int x1, .int x2, .int x3, .int x4, .int x5, .long z0])), (h6, .inl (y0, 2600, .inl f0))]) hP hD [0, 1] [] rfl rfl (by decide) (by decide) hk1 hFc hP1 hD1 rfl
        have hK := (hK.sub (tys' := []) [] rfl).app hK1
        generalize H1 = H at hP hS ⊢
        have hK : va_K (dC, dI) vwCl [(y0, .int)] s := hK
        refine lv_bipush (v := 32) hx hb dX10_passBlanks_15 (by decide) ?_
        refine lv_icmp_ne (tgt := 26) hx hb dX10_passBlanks_17 (by decide) (fun c141 => ?_) (fun c141 => ?_)
        · skip
          exact j79 _ _ hK hP hD hS ls hl
        · skip
          subst c141
          obtain ⟨v142, ev142⟩ : ∃ y : Int32, y = b34 + Int32.ofInt 1 := ⟨_, rfl⟩
          have iv142 : iv v142 (-2147483647) 2600 := iv_eq ev142 (iv_add j138 (by decide : iv (Int32.ofInt 1) 1 1) (by decide) (by decide))
          have tv142 : v142.toInt = b34.toInt + 1 := iv_addT ev142 j138 (by decide) (by decide) (by decide)
          refine lv_iinc (v := v142) (lv' := [(2, .int v142), (0, .ref h0)]) hx hb dX10_passBlanks_20 hl (k := 0) rfl ev142.symm (by decide) rfl (fun ls hl => ?_)
          refine lv_goto (tgt := 2) hx hb dX10_passBlanks_23 (by decide) ?_
          exact ih v142 (by omega) _ _ hK hP hD hS ls hl
  exact lp69 _ x0 (Nat.lt_succ_self _) _ _ hK hP hD hS ls (lv_sub hl [0, 1] rfl)
set_option maxHeartbeats 100000000 in
set_option maxRecDepth 100000 in
theorem cJ0_isLatin1_aae02_2 (l : Launch) (dC : Nat → ClassId) (dI : Nat → Nat → Nat) (adK adV : Nat → Nat) (sz : Nat) : Met l yJ0_isLatin1_aae02 (Cond.code yJ0_isLatin1_aae02 cJ0_isLatin1_aae02 1 (some .boolean) :: lw_G) ({ frames := 0, cells := 0, slots := 0, locals := 0 }) (va_Pc [.ref (adK 1)] (fun U => U.heap.size = sz ∧ va_P (dC, dI) vwCl [] U.heap ∧ va_K (dC, dI) vwCl [] U ∧ va_D (fun _ => True) [] ∧ ev adK adV (va_A [] sz) U U.heap)) (va_Qi (fun (r : Int32) (u : Unit) => r = 1 ∧ True) (fun (u : Unit) (t : State) => va_P (dC, dI) vwCl [] t.heap ∧ va_K (dC, dI) vwCl [] t ∧ va_D (va_A [] sz) []) (va_A [] sz)) 0 0 (va_A [] sz) := by
  refine Met.ofW (cc := cJ0_isLatin1_aae02) (maxL := 1) (ret := (some .boolean)) (by decide) rfl ?_
  intro p e s m args below meth c s₁ B hml hv
  obtain ⟨rfl, hsz, hP, hK, hD0, hE⟩ := hv
  have hx := B.exec
  have hb := B.bytes
  have hr := B.returns
  have hts0 := atoms_spec (ws := Cond.code yJ0_isLatin1_aae02 cJ0_isLatin1_aae02 1 (some .boolean) :: lw_G) B.pre
  have hG : ∀ w ∈ lw_G, w.before _ s = true := fun w h => hts0 w (List.mem_cons_of_mem _ h)
  have hown : s.vm.findClass RJ0 = some m.cls := findClass_of_methodNamed B.named
  have hlocks := B.notSynchronized
  subst hsz
  have hD := hD0.self (sz := s.heap.size)
  generalize hAe : va_A [] s.heap.size = A at hD hE ⊢
  have hA : ∀ q : Nat, s.heap.size ≤ q → A q := fun q h => by rw [← hAe]; exact Or.inr h
  have hS : va_S A s.heap s.heap [] := va_S.rf
  have hP : va_P (dC, dI) vwCl [] s.heap := hP
  have hl := lv_entry ([.ref (adK 1)]) (n := 1) (Nat.le_of_ble_eq_true rfl)
  rw [lg_entry_eq]
  generalize (lg_sl ([.ref (adK 1)]) ++ List.replicate (1 - (lg_sl ([.ref (adK 1)])).length) Slot.unset).toArray = ls at hl ⊢
  have hl : lv_has ls 1 [(0, .ref (adK 1))] := hl
  generalize ([.ref (adK 1)] : List Value).toArray = ar at hG ⊢
  refine wq (fun Q hQ => ?_)
  refine va_gets hx hb hE.2.1 hS hown (hG _ wd_243) (fun _ h9 => h9) dJ0_isLatin1_aae02_0 ?_
  refine lv_if_eq (tgt := 17) hx hb dJ0_isLatin1_aae02_3 (by decide) (fun c => absurd c (by decide)) (fun _ => ?_)
  refine lv_aload_n hx hb dJ0_isLatin1_aae02_6 rfl (lv_at hl 0 rfl) ?_
  refine vk_getf hx hb (hE.1.1 1 (by decide)).2.1 hS hown (hG _ wd_1890) (fun _ h9 => h9) dJ0_isLatin1_aae02_7 ?_
  refine lv_if_ne (tgt := 17) hx hb dJ0_isLatin1_aae02_10 (by decide) (fun c => absurd (by decide) c) (fun _ => ?_)
  refine lv_iconst (v := 1) hx hb dJ0_isLatin1_aae02_13 (by decide) ?_
  refine lv_goto (tgt := 18) hx hb dJ0_isLatin1_aae02_14 (by decide) ?_
  rw [hQ]
  obtain ⟨hP9, hD9⟩ := nv_sub2 (wc := []) hP hD [] (by decide) rfl
  have hK9 := hK.sub (tys' := []) [] rfl
  exact W.zret (v := 1) hx hb hr rfl (fun t ht hW => ⟨⟨1, (), rfl, ⟨rfl, trivial⟩, by rw [ht]; exact hP9, va_K.moved hW.alike hK9, hD9⟩, hS.F ht⟩) hS.2.2 dJ0_isLatin1_aae02_18
set_option maxHeartbeats 100000000 in
set_option maxRecDepth 100000 in
theorem cJ0_coder_7d493_2 (l : Launch) (dC : Nat → ClassId) (dI : Nat → Nat → Nat) (adK adV : Nat → Nat) (sz : Nat) : Met l yJ0_coder_7d493 (Cond.code yJ0_coder_7d493 cJ0_coder_7d493 1 (some .byte) :: lw_G) ({ frames := 0, cells := 0, slots := 0, locals := 0 }) (va_Pc [.ref (adK 1)] (fun U => U.heap.size = sz ∧ va_P (dC, dI) vwCl [] U.heap ∧ va_K (dC, dI) vwCl [] U ∧ va_D (fun _ => True) [] ∧ ev adK adV (va_A [] sz) U U.heap)) (va_Qi (fun (r : Int32) (u : Unit) => r = 0 ∧ True) (fun (u : Unit) (t : State) => va_P (dC, dI) vwCl [] t.heap ∧ va_K (dC, dI) vwCl [] t ∧ va_D (va_A [] sz) []) (va_A [] sz)) 0 0 (va_A [] sz) := by
  refine Met.ofW (cc := cJ0_coder_7d493) (maxL := 1) (ret := (some .byte)) (by decide) rfl ?_
  intro p e s m args below meth c s₁ B hml hv
  obtain ⟨rfl, hsz, hP, hK, hD0, hE⟩ := hv
  have hx := B.exec
  have hb := B.bytes
  have hr := B.returns
  have hts0 := atoms_spec (ws := Cond.code yJ0_coder_7d493 cJ0_coder_7d493 1 (some .byte) :: lw_G) B.pre
  have hG : ∀ w ∈ lw_G, w.before _ s = true := fun w h => hts0 w (List.mem_cons_of_mem _ h)
  have hown : s.vm.findClass RJ0 = some m.cls := findClass_of_methodNamed B.named
  have hlocks := B.notSynchronized
  subst hsz
  have hD := hD0.self (sz := s.heap.size)
  generalize hAe : va_A [] s.heap.size = A at hD hE ⊢
  have hA : ∀ q : Nat, s.heap.size ≤ q → A q := fun q h => by rw [← hAe]; exact Or.inr h
  have hS : va_S A s.heap s.heap [] := va_S.rf
  have hP : va_P (dC, dI) vwCl [] s.heap := hP
  have hl := lv_entry ([.ref (adK 1)]) (n := 1) (Nat.le_of_ble_eq_true rfl)
  rw [lg_entry_eq]
  generalize (lg_sl ([.ref (adK 1)]) ++ List.replicate (1 - (lg_sl ([.ref (adK 1)])).length) Slot.unset).toArray = ls at hl ⊢
  have hl : lv_has ls 1 [(0, .ref (adK 1))] := hl
  generalize ([.ref (adK 1)] : List Value).toArray = ar at hG ⊢
  refine wq (fun Q hQ => ?_)
  refine va_gets hx hb hE.2.1 hS hown (hG _ wd_243) (fun _ h9 => h9) dJ0_coder_7d493_0 ?_
  refine lv_if_eq (tgt := 13) hx hb dJ0_coder_7d493_3 (by decide) (fun c => absurd c (by decide)) (fun _ => ?_)
  refine lv_aload_n hx hb dJ0_coder_7d493_6 rfl (lv_at hl 0 rfl) ?_
  refine vk_getf hx hb (hE.1.1 1 (by decide)).2.1 hS hown (hG _ wd_1890) (fun _ h9 => h9) dJ0_coder_7d493_7 ?_
  refine lv_goto (tgt := 14) hx hb dJ0_coder_7d493_10 (by decide) ?_
  rw [hQ]
  obtain ⟨hP9, hD9⟩ := nv_sub2 (wc := []) hP hD [] (by decide) rfl
  have hK9 := hK.sub (tys' := []) [] rfl
  exact W.zret (v := 0) hx hb hr rfl (fun t ht hW => ⟨⟨0, (), rfl, ⟨rfl, trivial⟩, by rw [ht]; exact hP9, va_K.moved hW.alike hK9, hD9⟩, hS.F ht⟩) hS.2.2 dJ0_coder_7d493_14
set_option maxHeartbeats 100000000 in
set_option maxRecDepth 100000 in
theorem cJ0_length_8abf5_2 (l : Launch) (dC : Nat → ClassId) (dI : Nat → Nat → Nat) (adK adV : Nat → Nat) (sz : Nat) : Met l yJ0_length_8abf5 (Cond.code yJ0_length_8abf5 cJ0_length_8abf5 1 (some .int) :: lw_G) ({ frames := 1, cells := 0, slots := 0, locals := 20 }) (va_Pc [.ref (adK 1)] (fun U => U.heap.size = sz ∧ va_P (dC, dI) vwCl [] U.heap ∧ va_K (dC, dI) vwCl [] U ∧ va_D (fun _ => True) [] ∧ ev adK adV (va_A [] sz) U U.heap)) (va_Qi (fun (r : Int32) (u : Unit) => r = 9 ∧ True) (fun (u : Unit) (t : State) => va_P (dC, dI) vwCl [] t.heap ∧ va_K (dC, dI) vwCl [] t ∧ va_D (va_A [] sz) []) (va_A [] sz)) 0 0 (va_A [] sz) := by
  refine Met.ofW (cc := cJ0_length_8abf5) (maxL := 1) (ret := (some .int)) (by decide) rfl ?_
  intro p e s m args below meth c s₁ B hml hv
  obtain ⟨rfl, hsz, hP, hK, hD0, hE⟩ := hv
  have hx := B.exec
  have hb := B.bytes
  have hr := B.returns
  have hts0 := atoms_spec (ws := Cond.code yJ0_length_8abf5 cJ0_length_8abf5 1 (some .int) :: lw_G) B.pre
  have hG : ∀ w ∈ lw_G, w.before _ s = true := fun w h => hts0 w (List.mem_cons_of_mem _ h)
  have hown : s.vm.findClass RJ0 = some m.cls := findClass_of_methodNamed B.named
  have hlocks := B.notSynchronized
  subst hsz
  have hD := hD0.self (sz := s.heap.size)
  generalize hAe : va_A [] s.heap.size = A at hD hE ⊢
  have hA : ∀ q : Nat, s.heap.size ≤ q → A q := fun q h => by rw [← hAe]; exact Or.inr h
  have hS : va_S A s.heap s.heap [] := va_S.rf
  have hP : va_P (dC, dI) vwCl [] s.heap := hP
  have hl := lv_entry ([.ref (adK 1)]) (n := 1) (Nat.le_of_ble_eq_true rfl)
  rw [lg_entry_eq]
  generalize (lg_sl ([.ref (adK 1)]) ++ List.replicate (1 - (lg_sl ([.ref (adK 1)])).length) Slot.unset).toArray = ls at hl ⊢
  have hl : lv_has ls 1 [(0, .ref (adK 1))] := hl
  generalize ([.ref (adK 1)] : List Value).toArray = ar at hG ⊢
  refine wq (fun Q hQ => ?_)
  refine lv_aload_n hx hb dJ0_length_8abf5_0 rfl (lv_at hl 0 rfl) ?_
  refine vk_getf hx hb (hE.1.1 1 (by decide)).2.2.1 hS hown (hG _ wd_1889) (fun _ h9 => h9) dJ0_length_8abf5_1 ?_
  refine va_tlen (v := 9) hx hb (hE.1.1 1 (by decide)).2.2.2 hS (by decide) dJ0_length_8abf5_4 ?_
  refine lv_aload_n hx hb dJ0_length_8abf5_5 rfl (lv_at hl 0 rfl) ?_
  obtain ⟨hPc, hDc, hFc⟩ := nv_sub3 (wc := []) hP hD hS hA [] (by decide) rfl
  have hKc := hK.sub (tys' := []) [] rfl
  refine va_calli (va_runV (As := []) (rest := [.int 9]) ⟨hx, hb, hml, hown, hG⟩ (cJ0_coder_7d493_2 l dC dI adK adV s.heap.size) (cwV 0 hG (gV wd_239 wd_240 wd_241 wd_12 wd_242) rfl rfl rfl (by decide +kernel) ⟨Nat.le_of_ble_eq_true rfl, Nat.le_of_ble_eq_true rfl⟩) ⟨fun a U g mk q => by obtain ⟨q0, q1, qP, qK, qD, qE⟩ := q; exact ⟨q0, q1, qP, va_K.moved (u := U) (U := U.calling g mk a) (Vm.Alike.refl U.vm) qK, qD, qE.same rfl⟩, vk_recv hE.1 (i := 1) (by decide) hS, fun U hU hW => ⟨rfl, by rw [hU], by rw [hU]; exact hPc, va_K.moved hW.alike hKc, hDc.weaken (fun _ _ _ _ => trivial), by rw [hU]; exact ((hE.kept hS.2.1).narrow hFc).warm hW⟩⟩ rfl rfl hl.1 rfl (lv_room (Nat.le_of_ble_eq_true rfl)) dJ0_length_8abf5_6 ⟨by decide, by decide⟩) hS (fun q _ h => hFc q h) hFc (fun r1 u2 t H1 locs ht hvm hw hB hz1 hk1 hS => ?_)
  have hw : r1 = 0 ∧ True := hw
  obtain ⟨er1, -⟩ := hw
  obtain ⟨hP1, hK1, hD1⟩ := hB
  rw [ht] at hP1
  have hK1 := va_K.moved hvm.symm hK1
  obtain ⟨hP, hD⟩ := nv_join (wf := []) hP hD [] [] rfl rfl (by decide) (by decide) hk1 hFc hP1 hD1 rfl
  have hK := (hK.sub (tys' := []) [] rfl).app hK1
  generalize H1 = H at hP hS ⊢
  have hK : va_K (dC, dI) vwCl [] s := hK
  subst er1
  refine lv_ishr hx hb dJ0_length_8abf5_9 ?_
  refine lv_val (y := 9) (by decide +kernel) ?_
  rw [hQ]
  obtain ⟨hP9, hD9⟩ := nv_sub2 (wc := []) hP hD [] (by decide) rfl
  have hK9 := hK.sub (tys' := []) [] rfl
  exact W.iret (v := 9) hx hb hr (fun t ht hW => ⟨⟨9, (), rfl, ⟨rfl, trivial⟩, by rw [ht]; exact hP9, va_K.moved hW.alike hK9, hD9⟩, hS.F ht⟩) hS.2.2 dJ0_length_8abf5_10
set_option maxHeartbeats 100000000 in
set_option maxRecDepth 100000 in
theorem cJ1_canEncode_9a6ad_1 (l : Launch) (dC : Nat → ClassId) (dI : Nat → Nat → Nat) (sz : Nat) (x0 : Int32) : Met l yJ1_canEncode_9a6ad (Cond.code yJ1_canEncode_9a6ad cJ1_canEncode_9a6ad 1 (some .boolean) :: lw_G) ({ frames := 0, cells := 0, slots := 0, locals := 0 }) (va_Pc [.int x0] (fun U => U.heap.size = sz ∧ va_P (dC, dI) vwCl [] U.heap ∧ va_K (dC, dI) vwCl [] U ∧ va_D (fun _ => True) [])) (va_Qi (fun (r : Int32) (u : Unit) => iv r 0 1 ∧ True) (fun (u : Unit) (t : State) => va_P (dC, dI) vwCl [] t.heap ∧ va_K (dC, dI) vwCl [] t ∧ va_D (va_A [] sz) []) (va_A [] sz)) 0 0 (va_A [] sz) := by
  refine Met.ofW (cc := cJ1_canEncode_9a6ad) (maxL := 1) (ret := (some .boolean)) (by decide) rfl ?_
  intro p e s m args below meth c s₁ B hml hv
  obtain ⟨rfl, hsz, hP, hK, hD0⟩ := hv
  have hx := B.exec
  have hb := B.bytes
  have hr := B.returns
  have hts0 := atoms_spec (ws := Cond.code yJ1_canEncode_9a6ad cJ1_canEncode_9a6ad 1 (some .boolean) :: lw_G) B.pre
  have hG : ∀ w ∈ lw_G, w.before _ s = true := fun w h => hts0 w (List.mem_cons_of_mem _ h)
  have hown : s.vm.findClass RJ1 = some m.cls := findClass_of_methodNamed B.named
  have hlocks := B.notSynchronized
  subst hsz
  have hD := hD0.self (sz := s.heap.size)
  generalize hAe : va_A [] s.heap.size = A at hD ⊢
  have hA : ∀ q : Nat, s.heap.size ≤ q → A q := fun q h => by rw [← hAe]; exact Or.inr h
  have hS : va_S A s.heap s.heap [] := va_S.rf
  have hP : va_P (dC, dI) vwCl [] s.heap := hP
  have hl := lv_entry ([.int x0]) (n := 1) (Nat.le_of_ble_eq_true rfl)
  rw [lg_entry_eq]
  generalize (lg_sl ([.int x0]) ++ List.replicate (1 - (lg_sl ([.int x0])).length) Slot.unset).toArray = ls at hl ⊢
  have hl : lv_has ls 1 [(0, .int x0)] := hl
  generalize ([.int x0] : List Value).toArray = ar at hG ⊢
  refine wq (fun Q hQ => ?_)
  refine lv_iload_n hx hb dJ1_canEncode_9a6ad_0 rfl (lv_at hl 0 rfl) ?_
  refine jcut (a := ∀ (b7 : Int32) (ib7 : iv b7 0 1) (H : Heap) (locs : List Loc) (hK : va_K (dC, dI) vwCl [] s) (hP : va_P (dC, dI) vwCl [] H) (hD : va_D A []) (hS : va_S A s.heap H locs) (ls : Array Slot) (hl : lv_has ls 1 []), W p l e (headSpec (Cond.code yJ1_canEncode_9a6ad cJ1_canEncode_9a6ad 1 (some .boolean) :: lw_G) ({ frames := 0, cells := 0, slots := 0, locals := 0 })).room s m ar below meth c H locs 0 0 Q (F0 m 16 ls [.int b7])) ?_ (fun j8 => ?_)
  · skip
    intro b7 ib7 H locs hK hP hD hS ls hl
    rw [hQ]
    obtain ⟨hP9, hD9⟩ := nv_sub2 (wc := []) hP hD [] (by decide) rfl
    have hK9 := hK.sub (tys' := []) [] rfl
    exact W.zret (v := b7) hx hb hr (iv_z (iv_w ib7 (by decide) (by decide))).1 (fun t ht hW => ⟨⟨b7, (), rfl, ⟨iv_w ib7 (by decide) (by decide), trivial⟩, by rw [ht]; exact hP9, va_K.moved hW.alike hK9, hD9⟩, hS.F ht⟩) hS.2.2 dJ1_canEncode_9a6ad_16
  refine lv_if_lt (tgt := 15) hx hb dJ1_canEncode_9a6ad_1 (by decide) (fun c1 => ?_) (fun c1 => ?_)
  · skip
    have j9 : iv x0 (-2147483648) (-1) := iv_ltL (iv_any x0) (by decide : iv 0 0 0) c1 (by decide)
    refine lv_iconst (v := 0) hx hb dJ1_canEncode_9a6ad_15 (by decide) ?_
    exact j8 0 (iv_w (by decide : iv 0 0 0) (by decide) (by decide)) _ _ hK hP hD hS ls (lv_sub hl [] rfl)
  · skip
    have j10 : iv x0 0 2147483647 := iv_nltL (iv_any x0) (by decide : iv 0 0 0) c1 (by decide)
    refine lv_iload_n hx hb dJ1_canEncode_9a6ad_4 rfl (lv_at hl 0 rfl) ?_
    refine lv_sipush (v := 255) hx hb dJ1_canEncode_9a6ad_5 (by decide) ?_
    refine lv_icmp_gt (tgt := 15) hx hb dJ1_canEncode_9a6ad_8 (by decide) (fun c11 => ?_) (fun c11 => ?_)
    · skip
      have j12 : iv x0 256 2147483647 := iv_ltR (by decide : iv 255 255 255) j10 c11 (by decide)
      refine lv_iconst (v := 0) hx hb dJ1_canEncode_9a6ad_15 (by decide) ?_
      exact j8 0 (iv_w (by decide : iv 0 0 0) (by decide) (by decide)) _ _ hK hP hD hS ls (lv_sub hl [] rfl)
    · skip
      have j13 : iv x0 0 255 := iv_nltR (by decide : iv 255 255 255) j10 c11 (by decide)
      refine lv_iconst (v := 1) hx hb dJ1_canEncode_9a6ad_11 (by decide) ?_
      refine lv_goto (tgt := 16) hx hb dJ1_canEncode_9a6ad_12 (by decide) ?_
      exact j8 1 (iv_w (by decide : iv 1 1 1) (by decide) (by decide)) _ _ hK hP hD hS ls (lv_sub hl [] rfl)
