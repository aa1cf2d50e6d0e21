set_option maxHeartbeats 4000000 in
set_option maxRecDepth 100000 in
theorem cX2_restart_1 (l : Launch) (dC : Nat → ClassId) (dI : Nat → Nat → Nat) (h0 h1 h2 h3 h4 h5 h6 h7 h8 h9 : Nat) (y0 y1 : ClassId) (sz : Nat) : Met l yX2_restart (Cond.code yX2_restart cX2_restart 2 none :: lw_G) ({ frames := 1, cells := 0, slots := 0, locals := 22 }) (va_Pc [.ref h0] (fun U => U.heap.size = sz ∧ va_P (dC, dI) vwCl [(h0, .inr (2, [.ref h1, .ref h2, .ref h3, .int 0, .int 0, .int 0, .int 0, .int 0])), (h1, .inl (y0, 16, .inl (fun _ => 0))), (h2, .inr (3, [.ref h4, .ref h5, .int 0])), (h3, .inr (1, [.ref h6, .ref h7, .ref h8, .ref h9])), (h6, .inl (y1, 32768, .inl (fun _ => 0)))] U.heap ∧ va_K (dC, dI) vwCl [(y0, .int), (y1, .int)] U ∧ va_D (fun _ => True) [(h0, .inr (2, [.ref h1, .ref h2, .ref h3, .int 0, .int 0, .int 0, .int 0, .int 0])), (h1, .inl (y0, 16, .inl (fun _ => 0))), (h2, .inr (3, [.ref h4, .ref h5, .int 0])), (h3, .inr (1, [.ref h6, .ref h7, .ref h8, .ref h9])), (h6, .inl (y1, 32768, .inl (fun _ => 0)))])) (va_Qv (fun (u : (Nat → Int32)) => (∀ j, iv (u j) 0 0) ∧ u 0 = 0 ∧ u 1 = 0 ∧ u 2 = 0 ∧ u 3 = 0 ∧ u 4 = 0 ∧ u 5 = 0 ∧ u 6 = 0 ∧ u 7 = 0 ∧ u 8 = 0 ∧ u 9 = 0 ∧ u 10 = 0 ∧ u 11 = 0 ∧ u 12 = 0 ∧ u 13 = 0 ∧ u 14 = 0 ∧ u 15 = 0 ∧ True) (fun (u : (Nat → Int32)) (t : State) => va_P (dC, dI) vwCl [(h0, .inr (2, [.ref h1, .ref h2, .ref h3, .int 0, .int 0, .int 0, .int 0, .int 0])), (h1, .inl (y0, 16, .inl u)), (h2, .inr (3, [.ref h4, .ref h5, .int 0])), (h3, .inr (1, [.ref h6, .ref h7, .ref h8, .ref h9])), (h6, .inl (y1, 32768, .inl (fun _ => 0)))] t.heap ∧ va_K (dC, dI) vwCl [(y0, .int), (y1, .int)] t ∧ va_D (va_A [(h0, .inr (2, [.ref h1, .ref h2, .ref h3, .int 0, .int 0, .int 0, .int 0, .int 0])), (h1, .inl (y0, 16, .inl (fun _ => 0))), (h2, .inr (3, [.ref h4, .ref h5, .int 0])), (h3, .inr (1, [.ref h6, .ref h7, .ref h8, .ref h9])), (h6, .inl (y1, 32768, .inl (fun _ => 0)))] sz) [(h0, .inr (2, [.ref h1, .ref h2, .ref h3, .int 0, .int 0, .int 0, .int 0, .int 0])), (h1, .inl (y0, 16, .inl u)), (h2, .inr (3, [.ref h4, .ref h5, .int 0])), (h3, .inr (1, [.ref h6, .ref h7, .ref h8, .ref h9])), (h6, .inl (y1, 32768, .inl (fun _ => 0)))]) (va_A [(h0, .inr (2, [.ref h1, .ref h2, .ref h3, .int 0, .int 0, .int 0, .int 0, .int 0])), (h1, .inl (y0, 16, .inl (fun _ => 0))), (h2, .inr (3, [.ref h4, .ref h5, .int 0])), (h3, .inr (1, [.ref h6, .ref h7, .ref h8, .ref h9])), (h6, .inl (y1, 32768, .inl (fun _ => 0)))] sz)) 0 0 (va_A [(h0, .inr (2, [.ref h1, .ref h2, .ref h3, .int 0, .int 0, .int 0, .int 0, .int 0])), (h1, .inl (y0, 16, .inl (fun _ => 0))), (h2, .inr (3, [.ref h4, .ref h5, .int 0])), (h3, .inr (1, [.ref h6, .ref h7, .ref h8, .ref h9])), (h6, .inl (y1, 32768, .inl (fun _ => 0)))] sz) := by
  refine Met.ofW (cc := cX2_restart) (maxL := 2) (ret := none) (by decide) rfl ?_
  intro p e s m args below meth c s₁ B hml hv
  obtain ⟨rfl, hsz, hP, hK, hD0⟩ := hv
  have hx := B.exec
  have hb := B.bytes
  have hr := B.returns
  have hts0 := atoms_spec (ws := Cond.code yX2_restart cX2_restart 2 none :: lw_G) B.pre
  have hG : ∀ w ∈ lw_G, w.before _ s = true := fun w h => hts0 w (List.mem_cons_of_mem _ h)
  have hown : s.vm.findClass RX2 = some m.cls := findClass_of_methodNamed B.named
  have hlocks := B.notSynchronized
  subst hsz
  have hD := hD0.self (sz := s.heap.size)
  generalize hAe : va_A [(h0, .inr (2, [.ref h1, .ref h2, .ref h3, .int 0, .int 0, .int 0, .int 0, .int 0])), (h1, .inl (y0, 16, .inl (fun _ => 0))), (h2, .inr (3, [.ref h4, .ref h5, .int 0])), (h3, .inr (1, [.ref h6, .ref h7, .ref h8, .ref h9])), (h6, .inl (y1, 32768, .inl (fun _ => 0)))] s.heap.size = A at hD ⊢
  have hA : ∀ q : Nat, s.heap.size ≤ q → A q := fun q h => by rw [← hAe]; exact Or.inr h
  have hS : va_S A s.heap s.heap [] := va_S.rf
  have hP : va_P (dC, dI) vwCl [(h0, .inr (2, [.ref h1, .ref h2, .ref h3, .int 0, .int 0, .int 0, .int 0, .int 0])), (h1, .inl (y0, 16, .inl (fun _ => 0))), (h2, .inr (3, [.ref h4, .ref h5, .int 0])), (h3, .inr (1, [.ref h6, .ref h7, .ref h8, .ref h9])), (h6, .inl (y1, 32768, .inl (fun _ => 0)))] s.heap := hP
  have hl := lv_entry ([.ref h0]) (n := 2) (Nat.le_of_ble_eq_true rfl)
  rw [lg_entry_eq]
  generalize (lg_sl ([.ref h0]) ++ List.replicate (2 - (lg_sl ([.ref h0])).length) Slot.unset).toArray = ls at hl ⊢
  have hl : lv_has ls 2 [(0, .ref h0)] := hl
  refine lv_iconst (v := 0) hx hb dX2_restart_0 (by decide) ?_
  refine lv_istore_n (lv' := [(1, .int 0), (0, .ref h0)]) hx hb dX2_restart_1 rfl hl (by decide) rfl (fun ls hl => ?_)
  refine lv_iload_n hx hb dX2_restart_2 rfl (lv_at hl 0 rfl) ?_
  refine lv_bipush (v := 16) hx hb dX2_restart_3 (by decide) ?_
  refine lv_icmp_ge (tgt := 21) hx hb dX2_restart_5 (by decide) (fun c => absurd c (by decide)) (fun _ => ?_)
  refine lv_aload_n hx hb dX2_restart_8 rfl (lv_at hl 1 rfl) ?_
  refine va_get (D := (dC, dI)) (ci := 2) (v := .ref h1) (C := RX2) (T := TX2) (N := 8) hx hb hG inGX2 hown hK hP 0 rfl rfl 0 (by decide) (hG _ wd_149) (fun _ h9 => h9) rfl dX2_restart_9 ?_
  refine lv_iload_n hx hb dX2_restart_12 rfl (lv_at hl 0 rfl) ?_
  refine lv_iconst (v := 0) hx hb dX2_restart_13 (by decide) ?_
  refine va_iast hx hb hK hP hD hS 1 0 rfl rfl (iv_in (by decide : iv 0 0 0) (by decide) (by decide) : vp_in 0 16) dX2_restart_14 (fun H locs hP hD hS => ?_)
  have hP : va_P (dC, dI) vwCl [(h0, .inr (2, [.ref h1, .ref h2, .ref h3, .int 0, .int 0, .int 0, .int 0, .int 0])), (h1, .inl (y0, 16, .inl (upd (fun _ => 0) (0 : Int32).toNatClampNeg 0))), (h2, .inr (3, [.ref h4, .ref h5, .int 0])), (h3, .inr (1, [.ref h6, .ref h7, .ref h8, .ref h9])), (h6, .inl (y1, 32768, .inl (fun _ => 0)))] H := hP
  have hD : va_D A [(h0, .inr (2, [.ref h1, .ref h2, .ref h3, .int 0, .int 0, .int 0, .int 0, .int 0])), (h1, .inl (y0, 16, .inl (upd (fun _ => 0) (0 : Int32).toNatClampNeg 0))), (h2, .inr (3, [.ref h4, .ref h5, .int 0])), (h3, .inr (1, [.ref h6, .ref h7, .ref h8, .ref h9])), (h6, .inl (y1, 32768, .inl (fun _ => 0)))] := hD
  obtain ⟨f1, ef1⟩ : ∃ z, z = upd (fun _ => 0) (0 : Int32).toNatClampNeg 0 := ⟨_, rfl⟩
  rw [← ef1] at hP hD
  have if1 : ∀ j, iv (f1 j) 0 0 := by rw [ef1]; exact iv_upd (fun _ => (by decide : iv 0 0 0)) (by decide : iv 0 0 0) (by decide) (by decide) (by decide) (by decide)
  refine lv_iinc (v := 1) (lv' := [(1, .int 1), (0, .ref h0)]) hx hb dX2_restart_15 hl (k := 0) rfl (by decide) (by decide) rfl (fun ls hl => ?_)
  refine lv_goto (tgt := 2) hx hb dX2_restart_18 (by decide) ?_
  refine lv_iload_n hx hb dX2_restart_2 rfl (lv_at hl 0 rfl) ?_
  refine lv_bipush (v := 16) hx hb dX2_restart_3 (by decide) ?_
  refine lv_icmp_ge (tgt := 21) hx hb dX2_restart_5 (by decide) (fun c => absurd c (by decide)) (fun _ => ?_)
  refine lv_aload_n hx hb dX2_restart_8 rfl (lv_at hl 1 rfl) ?_
  refine va_get (D := (dC, dI)) (ci := 2) (v := .ref h1) (C := RX2) (T := TX2) (N := 8) hx hb hG inGX2 hown hK hP 0 rfl rfl 0 (by decide) (hG _ wd_149) (fun _ h9 => h9) rfl dX2_restart_9 ?_
  refine lv_iload_n hx hb dX2_restart_12 rfl (lv_at hl 0 rfl) ?_
  refine lv_iconst (v := 0) hx hb dX2_restart_13 (by decide) ?_
  refine va_iast hx hb hK hP hD hS 1 0 rfl rfl (iv_in (by decide : iv 1 1 1) (by decide) (by decide) : vp_in 1 16) dX2_restart_14 (fun H locs hP hD hS => ?_)
  have hP : va_P (dC, dI) vwCl [(h0, .inr (2, [.ref h1, .ref h2, .ref h3, .int 0, .int 0, .int 0, .int 0, .int 0])), (h1, .inl (y0, 16, .inl (upd f1 (1 : Int32).toNatClampNeg 0))), (h2, .inr (3, [.ref h4, .ref h5, .int 0])), (h3, .inr (1, [.ref h6, .ref h7, .ref h8, .ref h9])), (h6, .inl (y1, 32768, .inl (fun _ => 0)))] H := hP
  have hD : va_D A [(h0, .inr (2, [.ref h1, .ref h2, .ref h3, .int 0, .int 0, .int 0, .int 0, .int 0])), (h1, .inl (y0, 16, .inl (upd f1 (1 : Int32).toNatClampNeg 0))), (h2, .inr (3, [.ref h4, .ref h5, .int 0])), (h3, .inr (1, [.ref h6, .ref h7, .ref h8, .ref h9])), (h6, .inl (y1, 32768, .inl (fun _ => 0)))] := hD
  obtain ⟨f2, ef2⟩ : ∃ z, z = upd f1 (1 : Int32).toNatClampNeg 0 := ⟨_, rfl⟩
  rw [← ef2] at hP hD
  have if2 : ∀ j, iv (f2 j) 0 0 := by rw [ef2]; exact iv_upd if1 (by decide : iv 0 0 0) (by decide) (by decide) (by decide) (by decide)
  refine lv_iinc (v := 2) (lv' := [(1, .int 2), (0, .ref h0)]) hx hb dX2_restart_15 hl (k := 0) rfl (by decide) (by decide) rfl (fun ls hl => ?_)
  refine lv_goto (tgt := 2) hx hb dX2_restart_18 (by decide) ?_
  refine lv_iload_n hx hb dX2_restart_2 rfl (lv_at hl 0 rfl) ?_
  refine lv_bipush (v := 16) hx hb dX2_restart_3 (by decide) ?_
  refine lv_icmp_ge (tgt := 21) hx hb dX2_restart_5 (by decide) (fun c => absurd c (by decide)) (fun _ => ?_)
  refine lv_aload_n hx hb dX2_restart_8 rfl (lv_at hl 1 rfl) ?_
  refine va_get (D := (dC, dI)) (ci := 2) (v := .ref h1) (C := RX2) (T := TX2) (N := 8) hx hb hG inGX2 hown hK hP 0 rfl rfl 0 (by decide) (hG _ wd_149) (fun _ h9 => h9) rfl dX2_restart_9 ?_
  refine lv_iload_n hx hb dX2_restart_12 rfl (lv_at hl 0 rfl) ?_
  refine lv_iconst (v := 0) hx hb dX2_restart_13 (by decide) ?_
  refine va_iast hx hb hK hP hD hS 1 0 rfl rfl (iv_in (by decide : iv 2 2 2) (by decide) (by decide) : vp_in 2 16) dX2_restart_14 (fun H locs hP hD hS => ?_)
  have hP : va_P (dC, dI) vwCl [(h0, .inr (2, [.ref h1, .ref h2, .ref h3, .int 0, .int 0, .int 0, .int 0, .int 0])), (h1, .inl (y0, 16, .inl (upd f2 (2 : Int32).toNatClampNeg 0))), (h2, .inr (3, [.ref h4, .ref h5, .int 0])), (h3, .inr (1, [.ref h6, .ref h7, .ref h8, .ref h9])), (h6, .inl (y1, 32768, .inl (fun _ => 0)))] H := hP
  have hD : va_D A [(h0, .inr (2, [.ref h1, .ref h2, .ref h3, .int 0, .int 0, .int 0, .int 0, .int 0])), (h1, .inl (y0, 16, .inl (upd f2 (2 : Int32).toNatClampNeg 0))), (h2, .inr (3, [.ref h4, .ref h5, .int 0])), (h3, .inr (1, [.ref h6, .ref h7, .ref h8, .ref h9])), (h6, .inl (y1, 32768, .inl (fun _ => 0)))] := hD
  obtain ⟨f3, ef3⟩ : ∃ z, z = upd f2 (2 : Int32).toNatClampNeg 0 := ⟨_, rfl⟩
  rw [← ef3] at hP hD
  have if3 : ∀ j, iv (f3 j) 0 0 := by rw [ef3]; exact iv_upd if2 (by decide : iv 0 0 0) (by decide) (by decide) (by decide) (by decide)
  refine lv_iinc (v := 3) (lv' := [(1, .int 3), (0, .ref h0)]) hx hb dX2_restart_15 hl (k := 0) rfl (by decide) (by decide) rfl (fun ls hl => ?_)
  refine lv_goto (tgt := 2) hx hb dX2_restart_18 (by decide) ?_
  refine lv_iload_n hx hb dX2_restart_2 rfl (lv_at hl 0 rfl) ?_
  refine lv_bipush (v := 16) hx hb dX2_restart_3 (by decide) ?_
  refine lv_icmp_ge (tgt := 21) hx hb dX2_restart_5 (by decide) (fun c => absurd c (by decide)) (fun _ => ?_)
  refine lv_aload_n hx hb dX2_restart_8 rfl (lv_at hl 1 rfl) ?_
  refine va_get (D := (dC, dI)) (ci := 2) (v := .ref h1) (C := RX2) (T := TX2) (N := 8) hx hb hG inGX2 hown hK hP 0 rfl rfl 0 (by decide) (hG _ wd_149) (fun _ h9 => h9) rfl dX2_restart_9 ?_
  refine lv_iload_n hx hb dX2_restart_12 rfl (lv_at hl 0 rfl) ?_
  refine lv_iconst (v := 0) hx hb dX2_restart_13 (by decide) ?_
  refine va_iast hx hb hK hP hD hS 1 0 rfl rfl (iv_in (by decide : iv 3 3 3) (by decide) (by decide) : vp_in 3 16) dX2_restart_14 (fun H locs hP hD hS => ?_)
  have hP : va_P (dC, dI) vwCl [(h0, .inr (2, [.ref h1, .ref h2, .ref h3, .int 0, .int 0, .int 0, .int 0, .int 0])), (h1, .inl (y0, 16, .inl (upd f3 (3 : Int32).toNatClampNeg 0))), (h2, .inr (3, [.ref h4, .ref h5, .int 0])), (h3, .inr (1, [.ref h6, .ref h7, .ref h8, .ref h9])), (h6, .inl (y1, 32768, .inl (fun _ => 0)))] H := hP
  have hD : va_D A [(h0, .inr (2, [.ref h1, .ref h2, .ref h3, .int 0, .int 0, .int 0, .int 0, .int 0])), (h1, .inl (y0, 16, .inl (upd f3 (3 : Int32).toNatClampNeg 0))), (h2, .inr (3, [.ref h4, .ref h5, .int 0])), (h3, .inr (1, [.ref h6, .ref h7, .ref h8, .ref h9])), (h6, .inl (y1, 32768, .inl (fun _ => 0)))] := hD
  obtain ⟨f4, ef4⟩ : ∃ z, z = upd f3 (3 : Int32).toNatClampNeg 0 := ⟨_, rfl⟩
  rw [← ef4] at hP hD
  have if4 : ∀ j, iv (f4 j) 0 0 := by rw [ef4]; exact iv_upd if3 (by decide : iv 0 0 0) (by decide) (by decide) (by decide) (by decide)
  refine lv_iinc (v := 4) (lv' := [(1, .int 4), (0, .ref h0)]) hx hb dX2_restart_15 hl (k := 0) rfl (by decide) (by decide) rfl (fun ls hl => ?_)
  refine lv_goto (tgt := 2) hx hb dX2_restart_18 (by decide) ?_
  refine lv_iload_n hx hb dX2_restart_2 rfl (lv_at hl 0 rfl) ?_
  refine lv_bipush (v := 16) hx hb dX2_restart_3 (by decide) ?_
  refine lv_icmp_ge (tgt := 21) hx hb dX2_restart_5 (by decide) (fun c => absurd c (by decide)) (fun _ => ?_)
  refine lv_aload_n hx hb dX2_restart_8 rfl (lv_at hl 1 rfl) ?_
  refine va_get (D := (dC, dI)) (ci := 2) (v := .ref h1) (C := RX2) (T := TX2) (N := 8) hx hb hG inGX2 hown hK hP 0 rfl rfl 0 (by decide) (hG _ wd_149) (fun _ h9 => h9) rfl dX2_restart_9 ?_
  refine lv_iload_n hx hb dX2_restart_12 rfl (lv_at hl 0 rfl) ?_
  refine lv_iconst (v := 0) hx hb dX2_restart_13 (by decide) ?_
  refine va_iast hx hb hK hP hD hS 1 0 rfl rfl (iv_in (by decide : iv 4 4 4) (by decide) (by decide) : vp_in 4 16) dX2_restart_14 (fun H locs hP hD hS => ?_)
  have hP : va_P (dC, dI) vwCl [(h0, .inr (2, [.ref h1, .ref h2, .ref h3, .int 0, .int 0, .int 0, .int 0, .int 0])), (h1, .inl (y0, 16, .inl (upd f4 (4 : Int32).toNatClampNeg 0))), (h2, .inr (3, [.ref h4, .ref h5, .int 0])), (h3, .inr (1, [.ref h6, .ref h7, .ref h8, .ref h9])), (h6, .inl (y1, 32768, .inl (fun _ => 0)))] H := hP
  have hD : va_D A [(h0, .inr (2, [.ref h1, .ref h2, .ref h3, .int 0, .int 0, .int 0, .int 0, .int 0])), (h1, .inl (y0, 16, .inl (upd f4 (4 : Int32).toNatClampNeg 0))), (h2, .inr (3, [.ref h4, .ref h5, .int 0])), (h3, .inr (1, [.ref h6, .ref h7, .ref h8, .ref h9])), (h6, .inl (y1, 32768, .inl (fun _ => 0)))] := hD
  obtain ⟨f5, ef5⟩ : ∃ z, z = upd f4 (4 : Int32).toNatClampNeg 0 := ⟨_, rfl⟩
  rw [← ef5] at hP hD
  have if5 : ∀ j, iv (f5 j) 0 0 := by rw [ef5]; exact iv_upd if4 (by decide : iv 0 0 0) (by decide) (by decide) (by decide) (by decide)
  refine lv_iinc (v := 5) (lv' := [(1, .int 5), (0, .ref h0)]) hx hb dX2_restart_15 hl (k := 0) rfl (by decide) (by decide) rfl (fun ls hl => ?_)
  refine lv_goto (tgt := 2) hx hb dX2_restart_18 (by decide) ?_
  refine lv_iload_n hx hb dX2_restart_2 rfl (lv_at hl 0 rfl) ?_
  refine lv_bipush (v := 16) hx hb dX2_restart_3 (by decide) ?_
  refine lv_icmp_ge (tgt := 21) hx hb dX2_restart_5 (by decide) (fun c => absurd c (by decide)) (fun _ => ?_)
  refine lv_aload_n hx hb dX2_restart_8 rfl (lv_at hl 1 rfl) ?_
  refine va_get (D := (dC, dI)) (ci := 2) (v := .ref h1) (C := RX2) (T := TX2) (N := 8) hx hb hG inGX2 hown hK hP 0 rfl rfl 0 (by decide) (hG _ wd_149) (fun _ h9 => h9) rfl dX2_restart_9 ?_
  refine lv_iload_n hx hb dX2_restart_12 rfl (lv_at hl 0 rfl) ?_
  refine lv_iconst (v := 0) hx hb dX2_restart_13 (by decide) ?_
  refine va_iast hx hb hK hP hD hS 1 0 rfl rfl (iv_in (by decide : iv 5 5 5) (by decide) (by decide) : vp_in 5 16) dX2_restart_14 (fun H locs hP hD hS => ?_)
  have hP : va_P (dC, dI) vwCl [(h0, .inr (2, [.ref h1, .ref h2, .ref h3, .int 0, .int 0, .int 0, .int 0, .int 0])), (h1, .inl (y0, 16, .inl (upd f5 (5 : Int32).toNatClampNeg 0))), (h2, .inr (3, [.ref h4, .ref h5, .int 0])), (h3, .inr (1, [.ref h6, .ref h7, .ref h8, .ref h9])), (h6, .inl (y1, 32768, .inl (fun _ => 0)))] H := hP
  have hD : va_D A [(h0, .inr (2, [.ref h1, .ref h2, .ref h3, .int 0, .int 0, .int 0, .int 0, .int 0])), (h1, .inl (y0, 16, .inl (upd f5 (5 : Int32).toNatClampNeg 0))), (h2, .inr (3, [.ref h4, .ref h5, .int 0])), (h3, .inr (1, [.ref h6, .ref h7, .ref h8, .ref h9])), (h6, .inl (y1, 32768, .inl (fun _ => 0)))] := hD
  obtain ⟨f6, ef6⟩ : ∃ z, z = upd f5 (5 : Int32).toNatClampNeg 0 := ⟨_, rfl⟩
  rw [← ef6] at hP hD
  have if6 : ∀ j, iv (f6 j) 0 0 := by rw [ef6]; exact iv_upd if5 (by decide : iv 0 0 0) (by decide) (by decide) (by decide) (by decide)
  refine lv_iinc (v := 6) (lv' := [(1, .int 6), (0, .ref h0)]) hx hb dX2_restart_15 hl (k := 0) rfl (by decide) (by decide) rfl (fun ls hl => ?_)
  refine lv_goto (tgt := 2) hx hb dX2_restart_18 (by decide) ?_
  refine lv_iload_n hx hb dX2_restart_2 rfl (lv_at hl 0 rfl) ?_
  refine lv_bipush (v := 16) hx hb dX2_restart_3 (by decide) ?_
  refine lv_icmp_ge (tgt := 21) hx hb dX2_restart_5 (by decide) (fun c => absurd c (by decide)) (fun _ => ?_)
  refine lv_aload_n hx hb dX2_restart_8 rfl (lv_at hl 1 rfl) ?_
  refine va_get (D := (dC, dI)) (ci := 2) (v := .ref h1) (C := RX2) (T := TX2) (N := 8) hx hb hG inGX2 hown hK hP 0 rfl rfl 0 (by decide) (hG _ wd_149) (fun _ h9 => h9) rfl dX2_restart_9 ?_
  refine lv_iload_n hx hb dX2_restart_12 rfl (lv_at hl 0 rfl) ?_
  refine lv_iconst (v := 0) hx hb dX2_restart_13 (by decide) ?_
  refine va_iast hx hb hK hP hD hS 1 0 rfl rfl (iv_in (by decide : iv 6 6 6) (by decide) (by decide) : vp_in 6 16) dX2_restart_14 (fun H locs hP hD hS => ?_)
  have hP : va_P (dC, dI) vwCl [(h0, .inr (2, [.ref h1, .ref h2, .ref h3, .int 0, .int 0, .int 0, .int 0, .int 0])), (h1, .inl (y0, 16, .inl (upd f6 (6 : Int32).toNatClampNeg 0))), (h2, .inr (3, [.ref h4, .ref h5, .int 0])), (h3, .inr (1, [.ref h6, .ref h7, .ref h8, .ref h9])), (h6, .inl (y1, 32768, .inl (fun _ => 0)))] H := hP
  have hD : va_D A [(h0, .inr (2, [.ref h1, .ref h2, .ref h3, .int 0, .int 0, .int 0, .int 0, .int 0])), (h1, .inl (y0, 16, .inl (upd f6 (6 : Int32).toNatClampNeg 0))), (h2, .inr (3, [.ref h4, .ref h5, .int 0])), (h3, .inr (1, [.ref h6, .ref h7, .ref h8, .ref h9])), (h6, .inl (y1, 32768, .inl (fun _ => 0)))] := hD
  obtain ⟨f7, ef7⟩ : ∃ z, z = upd f6 (6 : Int32).toNatClampNeg 0 := ⟨_, rfl⟩
  rw [← ef7] at hP hD
  have if7 : ∀ j, iv (f7 j) 0 0 := by rw [ef7]; exact iv_upd if6 (by decide : iv 0 0 0) (by decide) (by decide) (by decide) (by decide)
  refine lv_iinc (v := 7) (lv' := [(1, .int 7), (0, .ref h0)]) hx hb dX2_restart_15 hl (k := 0) rfl (by decide) (by decide) rfl (fun ls hl => ?_)
  refine lv_goto (tgt := 2) hx hb dX2_restart_18 (by decide) ?_
  refine lv_iload_n hx hb dX2_restart_2 rfl (lv_at hl 0 rfl) ?_
  refine lv_bipush (v := 16) hx hb dX2_restart_3 (by decide) ?_
  refine lv_icmp_ge (tgt := 21) hx hb dX2_restart_5 (by decide) (fun c => absurd c (by decide)) (fun _ => ?_)
  refine lv_aload_n hx hb dX2_restart_8 rfl (lv_at hl 1 rfl) ?_
  refine va_get (D := (dC, dI)) (ci := 2) (v := .ref h1) (C := RX2) (T := TX2) (N := 8) hx hb hG inGX2 hown hK hP 0 rfl rfl 0 (by decide) (hG _ wd_149) (fun _ h9 => h9) rfl dX2_restart_9 ?_
  refine lv_iload_n hx hb dX2_restart_12 rfl (lv_at hl 0 rfl) ?_
  refine lv_iconst (v := 0) hx hb dX2_restart_13 (by decide) ?_
  refine va_iast hx hb hK hP hD hS 1 0 rfl rfl (iv_in (by decide : iv 7 7 7) (by decide) (by decide) : vp_in 7 16) dX2_restart_14 (fun H locs hP hD hS => ?_)
  have hP : va_P (dC, dI) vwCl [(h0, .inr (2, [.ref h1, .ref h2, .ref h3, .int 0, .int 0, .int 0, .int 0, .int 0])), (h1, .inl (y0, 16, .inl (upd f7 (7 : Int32).toNatClampNeg 0))), (h2, .inr (3, [.ref h4, .ref h5, .int 0])), (h3, .inr (1, [.ref h6, .ref h7, .ref h8, .ref h9])), (h6, .inl (y1, 32768, .inl (fun _ => 0)))] H := hP
  have hD : va_D A [(h0, .inr (2, [.ref h1, .ref h2, .ref h3, .int 0, .int 0, .int 0, .int 0, .int 0])), (h1, .inl (y0, 16, .inl (upd f7 (7 : Int32).toNatClampNeg 0))), (h2, .inr (3, [.ref h4, .ref h5, .int 0])), (h3, .inr (1, [.ref h6, .ref h7, .ref h8, .ref h9])), (h6, .inl (y1, 32768, .inl (fun _ => 0)))] := hD
  obtain ⟨f8, ef8⟩ : ∃ z, z = upd f7 (7 : Int32).toNatClampNeg 0 := ⟨_, rfl⟩
  rw [← ef8] at hP hD
  have if8 : ∀ j, iv (f8 j) 0 0 := by rw [ef8]; exact iv_upd if7 (by decide : iv 0 0 0) (by decide) (by decide) (by decide) (by decide)
  refine lv_iinc (v := 8) (lv' := [(1, .int 8), (0, .ref h0)]) hx hb dX2_restart_15 hl (k := 0) rfl (by decide) (by decide) rfl (fun ls hl => ?_)
  refine lv_goto (tgt := 2) hx hb dX2_restart_18 (by decide) ?_
  refine lv_iload_n hx hb dX2_restart_2 rfl (lv_at hl 0 rfl) ?_
  refine lv_bipush (v := 16) hx hb dX2_restart_3 (by decide) ?_
  refine lv_icmp_ge (tgt := 21) hx hb dX2_restart_5 (by decide) (fun c => absurd c (by decide)) (fun _ => ?_)
  refine lv_aload_n hx hb dX2_restart_8 rfl (lv_at hl 1 rfl) ?_
  refine va_get (D := (dC, dI)) (ci := 2) (v := .ref h1) (C := RX2) (T := TX2) (N := 8) hx hb hG inGX2 hown hK hP 0 rfl rfl 0 (by decide) (hG _ wd_149) (fun _ h9 => h9) rfl dX2_restart_9 ?_
  refine lv_iload_n hx hb dX2_restart_12 rfl (lv_at hl 0 rfl) ?_
  refine lv_iconst (v := 0) hx hb dX2_restart_13 (by decide) ?_
  refine va_iast hx hb hK hP hD hS 1 0 rfl rfl (iv_in (by decide : iv 8 8 8) (by decide) (by decide) : vp_in 8 16) dX2_restart_14 (fun H locs hP hD hS => ?_)
  have hP : va_P (dC, dI) vwCl [(h0, .inr (2, [.ref h1, .ref h2, .ref h3, .int 0, .int 0, .int 0, .int 0, .int 0])), (h1, .inl (y0, 16, .inl (upd f8 (8 : Int32).toNatClampNeg 0))), (h2, .inr (3, [.ref h4, .ref h5, .int 0])), (h3, .inr (1, [.ref h6, .ref h7, .ref h8, .ref h9])), (h6, .inl (y1, 32768, .inl (fun _ => 0)))] H := hP
  have hD : va_D A [(h0, .inr (2, [.ref h1, .ref h2, .ref h3, .int 0, .int 0, .int 0, .int 0, .int 0])), (h1, .inl (y0, 16, .inl (upd f8 (8 : Int32).toNatClampNeg 0))), (h2, .inr (3, [.ref h4, .ref h5, .int 0])), (h3, .inr (1, [.ref h6, .ref h7, .ref h8, .ref h9])), (h6, .inl (y1, 32768, .inl (fun _ => 0)))] := hD
  obtain ⟨f9, ef9⟩ : ∃ z, z = upd f8 (8 : Int32).toNatClampNeg 0 := ⟨_, rfl⟩
  rw [← ef9] at hP hD
  have if9 : ∀ j, iv (f9 j) 0 0 := by rw [ef9]; exact iv_upd if8 (by decide : iv 0 0 0) (by decide) (by decide) (by decide) (by decide)
  refine lv_iinc (v := 9) (lv' := [(1, .int 9), (0, .ref h0)]) hx hb dX2_restart_15 hl (k := 0) rfl (by decide) (by decide) rfl (fun ls hl => ?_)
  refine lv_goto (tgt := 2) hx hb dX2_restart_18 (by decide) ?_
  refine lv_iload_n hx hb dX2_restart_2 rfl (lv_at hl 0 rfl) ?_
  refine lv_bipush (v := 16) hx hb dX2_restart_3 (by decide) ?_
  refine lv_icmp_ge (tgt := 21) hx hb dX2_restart_5 (by decide) (fun c => absurd c (by decide)) (fun _ => ?_)
  refine lv_aload_n hx hb dX2_restart_8 rfl (lv_at hl 1 rfl) ?_
  refine va_get (D := (dC, dI)) (ci := 2) (v := .ref h1) (C := RX2) (T := TX2) (N := 8) hx hb hG inGX2 hown hK hP 0 rfl rfl 0 (by decide) (hG _ wd_149) (fun _ h9 => h9) rfl dX2_restart_9 ?_
  refine lv_iload_n hx hb dX2_restart_12 rfl (lv_at hl 0 rfl) ?_
  refine lv_iconst (v := 0) hx hb dX2_restart_13 (by decide) ?_
  refine va_iast hx hb hK hP hD hS 1 0 rfl rfl (iv_in (by decide : iv 9 9 9) (by decide) (by decide) : vp_in 9 16) dX2_restart_14 (fun H locs hP hD hS => ?_)
  have hP : va_P (dC, dI) vwCl [(h0, .inr (2, [.ref h1, .ref h2, .ref h3, .int 0, .int 0, .int 0, .int 0, .int 0])), (h1, .inl (y0, 16, .inl (upd f9 (9 : Int32).toNatClampNeg 0))), (h2, .inr (3, [.ref h4, .ref h5, .int 0])), (h3, .inr (1, [.ref h6, .ref h7, .ref h8, .ref h9])), (h6, .inl (y1, 32768, .inl (fun _ => 0)))] H := hP
  have hD : va_D A [(h0, .inr (2, [.ref h1, .ref h2, .ref h3, .int 0, .int 0, .int 0, .int 0, .int 0])), (h1, .inl (y0, 16, .inl (upd f9 (9 : Int32).toNatClampNeg 0))), (h2, .inr (3, [.ref h4, .ref h5, .int 0])), (h3, .inr (1, [.ref h6, .ref h7, .ref h8, .ref h9])), (h6, .inl (y1, 32768, .inl (fun _ => 0)))] := hD
  obtain ⟨f10, ef10⟩ : ∃ z, z = upd f9 (9 : Int32).toNatClampNeg 0 := ⟨_, rfl⟩
  rw [← ef10] at hP hD
  have if10 : ∀ j, iv (f10 j) 0 0 := by rw [ef10]; exact iv_upd if9 (by decide : iv 0 0 0) (by decide) (by decide) (by decide) (by decide)
  refine lv_iinc (v := 10) (lv' := [(1, .int 10), (0, .ref h0)]) hx hb dX2_restart_15 hl (k := 0) rfl (by decide) (by decide) rfl (fun ls hl => ?_)
  refine lv_goto (tgt := 2) hx hb dX2_restart_18 (by decide) ?_
  refine lv_iload_n hx hb dX2_restart_2 rfl (lv_at hl 0 rfl) ?_
  refine lv_bipush (v := 16) hx hb dX2_restart_3 (by decide) ?_
  refine lv_icmp_ge (tgt := 21) hx hb dX2_restart_5 (by decide) (fun c => absurd c (by decide)) (fun _ => ?_)
  refine lv_aload_n hx hb dX2_restart_8 rfl (lv_at hl 1 rfl) ?_
  refine va_get (D := (dC, dI)) (ci := 2) (v := .ref h1) (C := RX2) (T := TX2) (N := 8) hx hb hG inGX2 hown hK hP 0 rfl rfl 0 (by decide) (hG _ wd_149) (fun _ h9 => h9) rfl dX2_restart_9 ?_
  refine lv_iload_n hx hb dX2_restart_12 rfl (lv_at hl 0 rfl) ?_
  refine lv_iconst (v := 0) hx hb dX2_restart_13 (by decide) ?_
  refine va_iast hx hb hK hP hD hS 1 0 rfl rfl (iv_in (by decide : iv 10 10 10) (by decide) (by decide) : vp_in 10 16) dX2_restart_14 (fun H locs hP hD hS => ?_)
  have hP : va_P (dC, dI) vwCl [(h0, .inr (2, [.ref h1, .ref h2, .ref h3, .int 0, .int 0, .int 0, .int 0, .int 0])), (h1, .inl (y0, 16, .inl (upd f10 (10 : Int32).toNatClampNeg 0))), (h2, .inr (3, [.ref h4, .ref h5, .int 0])), (h3, .inr (1, [.ref h6, .ref h7, .ref h8, .ref h9])), (h6, .inl (y1, 32768, .inl (fun _ => 0)))] H := hP
  have hD : va_D A [(h0, .inr (2, [.ref h1, .ref h2, .ref h3, .int 0, .int 0, .int 0, .int 0, .int 0])), (h1, .inl (y0, 16, .inl (upd f10 (10 : Int32).toNatClampNeg 0))), (h2, .inr (3, [.ref h4, .ref h5, .int 0])), (h3, .inr (1, [.ref h6, .ref h7, .ref h8, .ref h9])), (h6, .inl (y1, 32768, .inl (fun _ => 0)))] := hD
  obtain ⟨f11, ef11⟩ : ∃ z, z = upd f10 (10 : Int32).toNatClampNeg 0 := ⟨_, rfl⟩
  rw [← ef11] at hP hD
  have if11 : ∀ j, iv (f11 j) 0 0 := by rw [ef11]; exact iv_upd if10 (by decide : iv 0 0 0) (by decide) (by decide) (by decide) (by decide)
  refine lv_iinc (v := 11) (lv' := [(1, .int 11), (0, .ref h0)]) hx hb dX2_restart_15 hl (k := 0) rfl (by decide) (by decide) rfl (fun ls hl => ?_)
  refine lv_goto (tgt := 2) hx hb dX2_restart_18 (by decide) ?_
  refine lv_iload_n hx hb dX2_restart_2 rfl (lv_at hl 0 rfl) ?_
  refine lv_bipush (v := 16) hx hb dX2_restart_3 (by decide) ?_
  refine lv_icmp_ge (tgt := 21) hx hb dX2_restart_5 (by decide) (fun c => absurd c (by decide)) (fun _ => ?_)
  refine lv_aload_n hx hb dX2_restart_8 rfl (lv_at hl 1 rfl) ?_
  refine va_get (D := (dC, dI)) (ci := 2) (v := .ref h1) (C := RX2) (T := TX2) (N := 8) hx hb hG inGX2 hown hK hP 0 rfl rfl 0 (by decide) (hG _ wd_149) (fun _ h9 => h9) rfl dX2_restart_9 ?_
  refine lv_iload_n hx hb dX2_restart_12 rfl (lv_at hl 0 rfl) ?_
  refine lv_iconst (v := 0) hx hb dX2_restart_13 (by decide) ?_
  refine va_iast hx hb hK hP hD hS 1 0 rfl rfl (iv_in (by decide : iv 11 11 11) (by decide) (by decide) : vp_in 11 16) dX2_restart_14 (fun H locs hP hD hS => ?_)
  have hP : va_P (dC, dI) vwCl [(h0, .inr (2, [.ref h1, .ref h2, .ref h3, .int 0, .int 0, .int 0, .int 0, .int 0])), (h1, .inl (y0, 16, .inl (upd f11 (11 : Int32).toNatClampNeg 0))), (h2, .inr (3, [.ref h4, .ref h5, .int 0])), (h3, .inr (1, [.ref h6, .ref h7, .ref h8, .ref h9])), (h6, .inl (y1, 32768, .inl (fun _ => 0)))] H := hP
  have hD : va_D A [(h0, .inr (2, [.ref h1, .ref h2, .ref h3, .int 0, .int 0, .int 0, .int 0, .int 0])), (h1, .inl (y0, 16, .inl (upd f11 (11 : Int32).toNatClampNeg 0))), (h2, .inr (3, [.ref h4, .ref h5, .int 0])), (h3, .inr (1, [.ref h6, .ref h7, .ref h8, .ref h9])), (h6, .inl (y1, 32768, .inl (fun _ => 0)))] := hD
  obtain ⟨f12, ef12⟩ : ∃ z, z = upd f11 (11 : Int32).toNatClampNeg 0 := ⟨_, rfl⟩
  rw [← ef12] at hP hD
  have if12 : ∀ j, iv (f12 j) 0 0 := by rw [ef12]; exact iv_upd if11 (by decide : iv 0 0 0) (by decide) (by decide) (by decide) (by decide)
  refine lv_iinc (v := 12) (lv' := [(1, .int 12), (0, .ref h0)]) hx hb dX2_restart_15 hl (k := 0) rfl (by decide) (by decide) rfl (fun ls hl => ?_)
  refine lv_goto (tgt := 2) hx hb dX2_restart_18 (by decide) ?_
  refine lv_iload_n hx hb dX2_restart_2 rfl (lv_at hl 0 rfl) ?_
  refine lv_bipush (v := 16) hx hb dX2_restart_3 (by decide) ?_
  refine lv_icmp_ge (tgt := 21) hx hb dX2_restart_5 (by decide) (fun c => absurd c (by decide)) (fun _ => ?_)
  refine lv_aload_n hx hb dX2_restart_8 rfl (lv_at hl 1 rfl) ?_
  refine va_get (D := (dC, dI)) (ci := 2) (v := .ref h1) (C := RX2) (T := TX2) (N := 8) hx hb hG inGX2 hown hK hP 0 rfl rfl 0 (by decide) (hG _ wd_149) (fun _ h9 => h9) rfl dX2_restart_9 ?_
  refine lv_iload_n hx hb dX2_restart_12 rfl (lv_at hl 0 rfl) ?_
  refine lv_iconst (v := 0) hx hb dX2_restart_13 (by decide) ?_
  refine va_iast hx hb hK hP hD hS 1 0 rfl rfl (iv_in (by decide : iv 12 12 12) (by decide) (by decide) : vp_in 12 16) dX2_restart_14 (fun H locs hP hD hS => ?_)
  have hP : va_P (dC, dI) vwCl [(h0, .inr (2, [.ref h1, .ref h2, .ref h3, .int 0, .int 0, .int 0, .int 0, .int 0])), (h1, .inl (y0, 16, .inl (upd f12 (12 : Int32).toNatClampNeg 0))), (h2, .inr (3, [.ref h4, .ref h5, .int 0])), (h3, .inr (1, [.ref h6, .ref h7, .ref h8, .ref h9])), (h6, .inl (y1, 32768, .inl (fun _ => 0)))] H := hP
  have hD : va_D A [(h0, .inr (2, [.ref h1, .ref h2, .ref h3, .int 0, .int 0, .int 0, .int 0, .int 0])), (h1, .inl (y0, 16, .inl (upd f12 (12 : Int32).toNatClampNeg 0))), (h2, .inr (3, [.ref h4, .ref h5, .int 0])), (h3, .inr (1, [.ref h6, .ref h7, .ref h8, .ref h9])), (h6, .inl (y1, 32768, .inl (fun _ => 0)))] := hD
  obtain ⟨f13, ef13⟩ : ∃ z, z = upd f12 (12 : Int32).toNatClampNeg 0 := ⟨_, rfl⟩
  rw [← ef13] at hP hD
  have if13 : ∀ j, iv (f13 j) 0 0 := by rw [ef13]; exact iv_upd if12 (by decide : iv 0 0 0) (by decide) (by decide) (by decide) (by decide)
  refine lv_iinc (v := 13) (lv' := [(1, .int 13), (0, .ref h0)]) hx hb dX2_restart_15 hl (k := 0) rfl (by decide) (by decide) rfl (fun ls hl => ?_)
  refine lv_goto (tgt := 2) hx hb dX2_restart_18 (by decide) ?_
  refine lv_iload_n hx hb dX2_restart_2 rfl (lv_at hl 0 rfl) ?_
  refine lv_bipush (v := 16) hx hb dX2_restart_3 (by decide) ?_
  refine lv_icmp_ge (tgt := 21) hx hb dX2_restart_5 (by decide) (fun c => absurd c (by decide)) (fun _ => ?_)
  refine lv_aload_n hx hb dX2_restart_8 rfl (lv_at hl 1 rfl) ?_
  refine va_get (D := (dC, dI)) (ci := 2) (v := .ref h1) (C := RX2) (T := TX2) (N := 8) hx hb hG inGX2 hown hK hP 0 rfl rfl 0 (by decide) (hG _ wd_149) (fun _ h9 => h9) rfl dX2_restart_9 ?_
  refine lv_iload_n hx hb dX2_restart_12 rfl (lv_at hl 0 rfl) ?_
  refine lv_iconst (v := 0) hx hb dX2_restart_13 (by decide) ?_
  refine va_iast hx hb hK hP hD hS 1 0 rfl rfl (iv_in (by decide : iv 13 13 13) (by decide) (by decide) : vp_in 13 16) dX2_restart_14 (fun H locs hP hD hS => ?_)
  have hP : va_P (dC, dI) vwCl [(h0, .inr (2, [.ref h1, .ref h2, .ref h3, .int 0, .int 0, .int 0, .int 0, .int 0])), (h1, .inl (y0, 16, .inl (upd f13 (13 : Int32).toNatClampNeg 0))), (h2, .inr (3, [.ref h4, .ref h5, .int 0])), (h3, .inr (1, [.ref h6, .ref h7, .ref h8, .ref h9])), (h6, .inl (y1, 32768, .inl (fun _ => 0)))] H := hP
  have hD : va_D A [(h0, .inr (2, [.ref h1, .ref h2, .ref h3, .int 0, .int 0, .int 0, .int 0, .int 0])), (h1, .inl (y0, 16, .inl (upd f13 (13 : Int32).toNatClampNeg 0))), (h2, .inr (3, [.ref h4, .ref h5, .int 0])), (h3, .inr (1, [.ref h6, .ref h7, .ref h8, .ref h9])), (h6, .inl (y1, 32768, .inl (fun _ => 0)))] := hD
  obtain ⟨f14, ef14⟩ : ∃ z, z = upd f13 (13 : Int32).toNatClampNeg 0 := ⟨_, rfl⟩
  rw [← ef14] at hP hD
  have if14 : ∀ j, iv (f14 j) 0 0 := by rw [ef14]; exact iv_upd if13 (by decide : iv 0 0 0) (by decide) (by decide) (by decide) (by decide)
  refine lv_iinc (v := 14) (lv' := [(1, .int 14), (0, .ref h0)]) hx hb dX2_restart_15 hl (k := 0) rfl (by decide) (by decide) rfl (fun ls hl => ?_)
  refine lv_goto (tgt := 2) hx hb dX2_restart_18 (by decide) ?_
  refine lv_iload_n hx hb dX2_restart_2 rfl (lv_at hl 0 rfl) ?_
  refine lv_bipush (v := 16) hx hb dX2_restart_3 (by decide) ?_
  refine lv_icmp_ge (tgt := 21) hx hb dX2_restart_5 (by decide) (fun c => absurd c (by decide)) (fun _ => ?_)
  refine lv_aload_n hx hb dX2_restart_8 rfl (lv_at hl 1 rfl) ?_
  refine va_get (D := (dC, dI)) (ci := 2) (v := .ref h1) (C := RX2) (T := TX2) (N := 8) hx hb hG inGX2 hown hK hP 0 rfl rfl 0 (by decide) (hG _ wd_149) (fun _ h9 => h9) rfl dX2_restart_9 ?_
  refine lv_iload_n hx hb dX2_restart_12 rfl (lv_at hl 0 rfl) ?_
  refine lv_iconst (v := 0) hx hb dX2_restart_13 (by decide) ?_
  refine va_iast hx hb hK hP hD hS 1 0 rfl rfl (iv_in (by decide : iv 14 14 14) (by decide) (by decide) : vp_in 14 16) dX2_restart_14 (fun H locs hP hD hS => ?_)
  have hP : va_P (dC, dI) vwCl [(h0, .inr (2, [.ref h1, .ref h2, .ref h3, .int 0, .int 0, .int 0, .int 0, .int 0])), (h1, .inl (y0, 16, .inl (upd f14 (14 : Int32).toNatClampNeg 0))), (h2, .inr (3, [.ref h4, .ref h5, .int 0])), (h3, .inr (1, [.ref h6, .ref h7, .ref h8, .ref h9])), (h6, .inl (y1, 32768, .inl (fun _ => 0)))] H := hP
  have hD : va_D A [(h0, .inr (2, [.ref h1, .ref h2, .ref h3, .int 0, .int 0, .int 0, .int 0, .int 0])), (h1, .inl (y0, 16, .inl (upd f14 (14 : Int32).toNatClampNeg 0))), (h2, .inr (3, [.ref h4, .ref h5, .int 0])), (h3, .inr (1, [.ref h6, .ref h7, .ref h8, .ref h9])), (h6, .inl (y1, 32768, .inl (fun _ => 0)))] := hD
  obtain ⟨f15, ef15⟩ : ∃ z, z = upd f14 (14 : Int32).toNatClampNeg 0 := ⟨_, rfl⟩
  rw [← ef15] at hP hD
  have if15 : ∀ j, iv (f15 j) 0 0 := by rw [ef15]; exact iv_upd if14 (by decide : iv 0 0 0) (by decide) (by decide) (by decide) (by decide)
  refine lv_iinc (v := 15) (lv' := [(1, .int 15), (0, .ref h0)]) hx hb dX2_restart_15 hl (k := 0) rfl (by decide) (by decide) rfl (fun ls hl => ?_)
  refine lv_goto (tgt := 2) hx hb dX2_restart_18 (by decide) ?_
  refine lv_iload_n hx hb dX2_restart_2 rfl (lv_at hl 0 rfl) ?_
  refine lv_bipush (v := 16) hx hb dX2_restart_3 (by decide) ?_
  refine lv_icmp_ge (tgt := 21) hx hb dX2_restart_5 (by decide) (fun c => absurd c (by decide)) (fun _ => ?_)
  refine lv_aload_n hx hb dX2_restart_8 rfl (lv_at hl 1 rfl) ?_
  refine va_get (D := (dC, dI)) (ci := 2) (v := .ref h1) (C := RX2) (T := TX2) (N := 8) hx hb hG inGX2 hown hK hP 0 rfl rfl 0 (by decide) (hG _ wd_149) (fun _ h9 => h9) rfl dX2_restart_9 ?_
  refine lv_iload_n hx hb dX2_restart_12 rfl (lv_at hl 0 rfl) ?_
  refine lv_iconst (v := 0) hx hb dX2_restart_13 (by decide) ?_
  refine va_iast hx hb hK hP hD hS 1 0 rfl rfl (iv_in (by decide : iv 15 15 15) (by decide) (by decide) : vp_in 15 16) dX2_restart_14 (fun H locs hP hD hS => ?_)
  have hP : va_P (dC, dI) vwCl [(h0, .inr (2, [.ref h1, .ref h2, .ref h3, .int 0, .int 0, .int 0, .int 0, .int 0])), (h1, .inl (y0, 16, .inl (upd f15 (15 : Int32).toNatClampNeg 0))), (h2, .inr (3, [.ref h4, .ref h5, .int 0])), (h3, .inr (1, [.ref h6, .ref h7, .ref h8, .ref h9])), (h6, .inl (y1, 32768, .inl (fun _ => 0)))] H := hP
  have hD : va_D A [(h0, .inr (2, [.ref h1, .ref h2, .ref h3, .int 0, .int 0, .int 0, .int 0, .int 0])), (h1, .inl (y0, 16, .inl (upd f15 (15 : Int32).toNatClampNeg 0))), (h2, .inr (3, [.ref h4, .ref h5, .int 0])), (h3, .inr (1, [.ref h6, .ref h7, .ref h8, .ref h9])), (h6, .inl (y1, 32768, .inl (fun _ => 0)))] := hD
  obtain ⟨f16, ef16⟩ : ∃ z, z = upd f15 (15 : Int32).toNatClampNeg 0 := ⟨_, rfl⟩
  rw [← ef16] at hP hD
  have if16 : ∀ j, iv (f16 j) 0 0 := by rw [ef16]; exact iv_upd if15 (by decide : iv 0 0 0) (by decide) (by decide) (by decide) (by decide)
  refine lv_iinc (v := 16) (lv' := [(1, .int 16), (0, .ref h0)]) hx hb dX2_restart_15 hl (k := 0) rfl (by decide) (by decide) rfl (fun ls hl => ?_)
  refine lv_goto (tgt := 2) hx hb dX2_restart_18 (by decide) ?_
  refine lv_iload_n hx hb dX2_restart_2 rfl (lv_at hl 0 rfl) ?_
  refine lv_bipush (v := 16) hx hb dX2_restart_3 (by decide) ?_
  refine lv_icmp_ge (tgt := 21) hx hb dX2_restart_5 (by decide) (fun _ => ?_) (fun c => absurd (by decide) c)
  refine lv_aload_n hx hb dX2_restart_21 rfl (lv_at hl 1 rfl) ?_
  refine va_get (D := (dC, dI)) (ci := 2) (v := .ref h2) (C := RX2) (T := TX2) (N := 8) hx hb hG inGX2 hown hK hP 0 rfl rfl 1 (by decide) (hG _ wd_150) (fun _ h9 => h9) rfl dX2_restart_22 ?_
  have hPc := hP.sub (ws' := [(h2, .inr (3, [.ref h4, .ref h5, .int 0]))]) [2] rfl
  have hDc := hD.sub (ws' := [(h2, .inr (3, [.ref h4, .ref h5, .int 0]))]) [2] (by decide) rfl
  have hKc := hK.sub (tys' := []) [] rfl
  have hFc := va_free (wc := [(h2, .inr (3, [.ref h4, .ref h5, .int 0]))]) hD hS hA [2] rfl
  refine va_callv (va_runV (As := []) (rest := []) ⟨hx, hb, hml, hown, hG⟩ (cX3_clear_1 l dC dI h2 h4 h5 H.size) (cwV 0 hG (gV wd_816 wd_817 wd_818 wd_7 wd_819) rfl rfl rfl (by decide +kernel) ⟨Nat.le_of_ble_eq_true rfl, Nat.le_of_ble_eq_true rfl⟩) ⟨fun a U g mk q => by obtain ⟨q0, q1, qP, qK, qD⟩ := q; exact ⟨q0, q1, qP, va_K.moved (u := U) (U := U.calling g mk a) (Vm.Alike.refl U.vm) qK, qD⟩, va_recv hKc hPc (ci := 3) (q0 := 0) rfl rfl, fun U hU hW => ⟨rfl, by rw [hU], by rw [hU]; exact hPc, va_K.moved hW.alike hKc, hDc.weaken (fun _ _ _ _ => trivial)⟩⟩ rfl rfl hl.1 rfl (lv_room (Nat.le_of_ble_eq_true rfl)) dX2_restart_25 ⟨by decide, by decide⟩) hS (fun q _ h => hFc q h) hFc (fun u18 t H1 locs ht hvm hw hB hz1 hk1 hS => ?_)
  obtain ⟨hP1, hK1, hD1⟩ := hB
  rw [ht] at hP1
  have hK1 := va_K.moved hvm.symm hK1
  obtain ⟨hP, hD⟩ := va_join (wr := [(h0, .inr (2, [.ref h1, .ref h2, .ref h3, .int 0, .int 0, .int 0, .int 0, .int 0])), (h1, .inl (y0, 16, .inl f16)), (h3, .inr (1, [.ref h6, .ref h7, .ref h8, .ref h9])), (h6, .inl (y1, 32768, .inl (fun _ => 0)))]) (w1 := [(h2, .inr (3, [.ref h4, .ref h5, .int 0]))]) hP hD [2] [0, 1, 3, 4] rfl rfl (by decide) (by decide) hk1 hFc hP1 hD1
  have hK := (hK.sub (tys' := [(y0, .int), (y1, .int)]) [0, 1] rfl).app hK1
  generalize H1 = H at hP hS ⊢
  have hP : va_P (dC, dI) vwCl [(h0, .inr (2, [.ref h1, .ref h2, .ref h3, .int 0, .int 0, .int 0, .int 0, .int 0])), (h1, .inl (y0, 16, .inl f16)), (h3, .inr (1, [.ref h6, .ref h7, .ref h8, .ref h9])), (h6, .inl (y1, 32768, .inl (fun _ => 0))), (h2, .inr (3, [.ref h4, .ref h5, .int 0]))] H := hP
  have hD : va_D A [(h0, .inr (2, [.ref h1, .ref h2, .ref h3, .int 0, .int 0, .int 0, .int 0, .int 0])), (h1, .inl (y0, 16, .inl f16)), (h3, .inr (1, [.ref h6, .ref h7, .ref h8, .ref h9])), (h6, .inl (y1, 32768, .inl (fun _ => 0))), (h2, .inr (3, [.ref h4, .ref h5, .int 0]))] := hD
  have hK : va_K (dC, dI) vwCl [(y0, .int), (y1, .int)] s := hK
  refine lv_aload_n hx hb dX2_restart_28 rfl (lv_at hl 1 rfl) ?_
  refine lv_iconst (v := 0) hx hb dX2_restart_29 (by decide) ?_
  refine va_put (D := (dC, dI)) (ci := 2) (v := .int 0) (ty := .int) (C := RX2) (T := TX2) (N := 8) hx hb hG inGX2 tyX2 tyX2_ok nmX2 hown hK hP hD hS 0 rfl rfl 3 (by decide) (hG _ wd_152) (fun _ h9 => h9) rfl (by decide +kernel) rfl rfl (Nat.le_of_ble_eq_true rfl) dX2_restart_30 (fun H locs hP hD hS => ?_)
  have hP : va_P (dC, dI) vwCl [(h0, .inr (2, [.ref h1, .ref h2, .ref h3, .int 0, .int 0, .int 0, .int 0, .int 0])), (h1, .inl (y0, 16, .inl f16)), (h3, .inr (1, [.ref h6, .ref h7, .ref h8, .ref h9])), (h6, .inl (y1, 32768, .inl (fun _ => 0))), (h2, .inr (3, [.ref h4, .ref h5, .int 0]))] H := hP
  have hD : va_D A [(h0, .inr (2, [.ref h1, .ref h2, .ref h3, .int 0, .int 0, .int 0, .int 0, .int 0])), (h1, .inl (y0, 16, .inl f16)), (h3, .inr (1, [.ref h6, .ref h7, .ref h8, .ref h9])), (h6, .inl (y1, 32768, .inl (fun _ => 0))), (h2, .inr (3, [.ref h4, .ref h5, .int 0]))] := hD
  refine lv_aload_n hx hb dX2_restart_33 rfl (lv_at hl 1 rfl) ?_
  refine lv_iconst (v := 0) hx hb dX2_restart_34 (by decide) ?_
  refine va_put (D := (dC, dI)) (ci := 2) (v := .int 0) (ty := .int) (C := RX2) (T := TX2) (N := 8) hx hb hG inGX2 tyX2 tyX2_ok nmX2 hown hK hP hD hS 0 rfl rfl 4 (by decide) (hG _ wd_153) (fun _ h9 => h9) rfl (by decide +kernel) rfl rfl (Nat.le_of_ble_eq_true rfl) dX2_restart_35 (fun H locs hP hD hS => ?_)
  have hP : va_P (dC, dI) vwCl [(h0, .inr (2, [.ref h1, .ref h2, .ref h3, .int 0, .int 0, .int 0, .int 0, .int 0])), (h1, .inl (y0, 16, .inl f16)), (h3, .inr (1, [.ref h6, .ref h7, .ref h8, .ref h9])), (h6, .inl (y1, 32768, .inl (fun _ => 0))), (h2, .inr (3, [.ref h4, .ref h5, .int 0]))] H := hP
  have hD : va_D A [(h0, .inr (2, [.ref h1, .ref h2, .ref h3, .int 0, .int 0, .int 0, .int 0, .int 0])), (h1, .inl (y0, 16, .inl f16)), (h3, .inr (1, [.ref h6, .ref h7, .ref h8, .ref h9])), (h6, .inl (y1, 32768, .inl (fun _ => 0))), (h2, .inr (3, [.ref h4, .ref h5, .int 0]))] := hD
  refine lv_aload_n hx hb dX2_restart_38 rfl (lv_at hl 1 rfl) ?_
  refine lv_iconst (v := 0) hx hb dX2_restart_39 (by decide) ?_
  refine va_put (D := (dC, dI)) (ci := 2) (v := .int 0) (ty := .int) (C := RX2) (T := TX2) (N := 8) hx hb hG inGX2 tyX2 tyX2_ok nmX2 hown hK hP hD hS 0 rfl rfl 5 (by decide) (hG _ wd_154) (fun _ h9 => h9) rfl (by decide +kernel) rfl rfl (Nat.le_of_ble_eq_true rfl) dX2_restart_40 (fun H locs hP hD hS => ?_)
  have hP : va_P (dC, dI) vwCl [(h0, .inr (2, [.ref h1, .ref h2, .ref h3, .int 0, .int 0, .int 0, .int 0, .int 0])), (h1, .inl (y0, 16, .inl f16)), (h3, .inr (1, [.ref h6, .ref h7, .ref h8, .ref h9])), (h6, .inl (y1, 32768, .inl (fun _ => 0))), (h2, .inr (3, [.ref h4, .ref h5, .int 0]))] H := hP
  have hD : va_D A [(h0, .inr (2, [.ref h1, .ref h2, .ref h3, .int 0, .int 0, .int 0, .int 0, .int 0])), (h1, .inl (y0, 16, .inl f16)), (h3, .inr (1, [.ref h6, .ref h7, .ref h8, .ref h9])), (h6, .inl (y1, 32768, .inl (fun _ => 0))), (h2, .inr (3, [.ref h4, .ref h5, .int 0]))] := hD
  refine lv_aload_n hx hb dX2_restart_43 rfl (lv_at hl 1 rfl) ?_
  refine lv_iconst (v := 0) hx hb dX2_restart_44 (by decide) ?_
  refine lv_aload_n hx hb dX2_restart_45 rfl (lv_at hl 1 rfl) ?_
  refine va_get (D := (dC, dI)) (ci := 2) (v := .ref h3) (C := RX2) (T := TX2) (N := 8) hx hb hG inGX2 hown hK hP 0 rfl rfl 2 (by decide) (hG _ wd_151) (fun _ h9 => h9) rfl dX2_restart_46 ?_
  refine lv_ldc hx hb hown (hG _ wd_820) dX2_restart_49 ?_
  have hPc := hP.sub (ws' := [(h3, .inr (1, [.ref h6, .ref h7, .ref h8, .ref h9])), (h6, .inl (y1, 32768, .inl (fun _ => 0)))]) [2, 3] rfl
  have hDc := hD.sub (ws' := [(h3, .inr (1, [.ref h6, .ref h7, .ref h8, .ref h9])), (h6, .inl (y1, 32768, .inl (fun _ => 0)))]) [2, 3] (by decide) rfl
  have hKc := hK.sub (tys' := [(y1, .int)]) [1] rfl
  have hFc := va_free (wc := [(h3, .inr (1, [.ref h6, .ref h7, .ref h8, .ref h9])), (h6, .inl (y1, 32768, .inl (fun _ => 0)))]) hD hS hA [2, 3] rfl
  refine va_calli (va_runV (As := [.int 65534]) (rest := [.int 0, .ref h0]) ⟨hx, hb, hml, hown, hG⟩ (cX1_lookWord_1 l dC dI h3 h6 h7 h8 h9 y1 H.size) (cwV 1 hG (gV wd_821 wd_822 wd_823 wd_2 wd_824) rfl rfl rfl (by decide +kernel) ⟨Nat.le_of_ble_eq_true rfl, Nat.le_of_ble_eq_true rfl⟩) ⟨fun a U g mk q => by obtain ⟨q0, q1, qP, qK, qD⟩ := q; exact ⟨q0, q1, qP, va_K.moved (u := U) (U := U.calling g mk a) (Vm.Alike.refl U.vm) qK, qD⟩, va_recv hKc hPc (ci := 1) (q0 := 0) rfl rfl, fun U hU hW => ⟨rfl, by rw [hU], by rw [hU]; exact hPc, va_K.moved hW.alike hKc, hDc.weaken (fun _ _ _ _ => trivial)⟩⟩ rfl rfl hl.1 rfl (lv_room (Nat.le_of_ble_eq_true rfl)) dX2_restart_51 ⟨by decide, by decide⟩) hS (fun q _ h => hFc q h) hFc (fun r19 u20 t H1 locs ht hvm hw hB hz1 hk1 hS => ?_)
  have hw : r19 = 0 ∧ True := hw
  obtain ⟨er19, -⟩ := hw
  obtain ⟨hP1, hK1, hD1⟩ := hB
  rw [ht] at hP1
  have hK1 := va_K.moved hvm.symm hK1
  obtain ⟨hP, hD⟩ := va_join (wr := [(h0, .inr (2, [.ref h1, .ref h2, .ref h3, .int 0, .int 0, .int 0, .int 0, .int 0])), (h1, .inl (y0, 16, .inl f16)), (h2, .inr (3, [.ref h4, .ref h5, .int 0]))]) (w1 := [(h3, .inr (1, [.ref h6, .ref h7, .ref h8, .ref h9])), (h6, .inl (y1, 32768, .inl (fun _ => 0)))]) hP hD [2, 3] [0, 1, 4] rfl rfl (by decide) (by decide) hk1 hFc hP1 hD1
  have hK := (hK.sub (tys' := [(y0, .int)]) [0] rfl).app hK1
  generalize H1 = H at hP hS ⊢
  have hP : va_P (dC, dI) vwCl [(h0, .inr (2, [.ref h1, .ref h2, .ref h3, .int 0, .int 0, .int 0, .int 0, .int 0])), (h1, .inl (y0, 16, .inl f16)), (h2, .inr (3, [.ref h4, .ref h5, .int 0])), (h3, .inr (1, [.ref h6, .ref h7, .ref h8, .ref h9])), (h6, .inl (y1, 32768, .inl (fun _ => 0)))] H := hP
  have hD : va_D A [(h0, .inr (2, [.ref h1, .ref h2, .ref h3, .int 0, .int 0, .int 0, .int 0, .int 0])), (h1, .inl (y0, 16, .inl f16)), (h2, .inr (3, [.ref h4, .ref h5, .int 0])), (h3, .inr (1, [.ref h6, .ref h7, .ref h8, .ref h9])), (h6, .inl (y1, 32768, .inl (fun _ => 0)))] := hD
  have hK : va_K (dC, dI) vwCl [(y0, .int), (y1, .int)] s := hK
  subst er19
  have hPc := hP.sub (ws' := [(h0, .inr (2, [.ref h1, .ref h2, .ref h3, .int 0, .int 0, .int 0, .int 0, .int 0])), (h1, .inl (y0, 16, .inl f16))]) [0, 1] rfl
  have hDc := hD.sub (ws' := [(h0, .inr (2, [.ref h1, .ref h2, .ref h3, .int 0, .int 0, .int 0, .int 0, .int 0])), (h1, .inl (y0, 16, .inl f16))]) [0, 1] (by decide) rfl
  have hKc := hK.sub (tys' := [(y0, .int)]) [0] rfl
  have hFc := va_free (wc := [(h0, .inr (2, [.ref h1, .ref h2, .ref h3, .int 0, .int 0, .int 0, .int 0, .int 0])), (h1, .inl (y0, 16, .inl f16))]) hD hS hA [0, 1] rfl
  refine va_callv (va_runV (As := [.int 0, .int 0]) (rest := []) ⟨hx, hb, hml, hown, hG⟩ (cX2_writeRegister_1 l dC dI h0 h1 h2 h3 y0 H.size f16 if16 (kn ef16 (by decide) (kn ef15 (by decide) (kn ef14 (by decide) (kn ef13 (by decide) (kn ef12 (by decide) (kn ef11 (by decide) (kn ef10 (by decide) (kn ef9 (by decide) (kn ef8 (by decide) (kn ef7 (by decide) (kn ef6 (by decide) (kn ef5 (by decide) (kn ef4 (by decide) (kn ef3 (by decide) (kn ef2 (by decide) (ku ef1 (by decide))))))))))))))))) (kn ef16 (by decide) (kn ef15 (by decide) (kn ef14 (by decide) (kn ef13 (by decide) (kn ef12 (by decide) (kn ef11 (by decide) (kn ef10 (by decide) (kn ef9 (by decide) (kn ef8 (by decide) (kn ef7 (by decide) (kn ef6 (by decide) (kn ef5 (by decide) (kn ef4 (by decide) (kn ef3 (by decide) (ku ef2 (by decide)))))))))))))))) (kn ef16 (by decide) (kn ef15 (by decide) (kn ef14 (by decide) (kn ef13 (by decide) (kn ef12 (by decide) (kn ef11 (by decide) (kn ef10 (by decide) (kn ef9 (by decide) (kn ef8 (by decide) (kn ef7 (by decide) (kn ef6 (by decide) (kn ef5 (by decide) (kn ef4 (by decide) (ku ef3 (by decide))))))))))))))) (kn ef16 (by decide) (kn ef15 (by decide) (kn ef14 (by decide) (kn ef13 (by decide) (kn ef12 (by decide) (kn ef11 (by decide) (kn ef10 (by decide) (kn ef9 (by decide) (kn ef8 (by decide) (kn ef7 (by decide) (kn ef6 (by decide) (kn ef5 (by decide) (ku ef4 (by decide)))))))))))))) (kn ef16 (by decide) (kn ef15 (by decide) (kn ef14 (by decide) (kn ef13 (by decide) (kn ef12 (by decide) (kn ef11 (by decide) (kn ef10 (by decide) (kn ef9 (by decide) (kn ef8 (by decide) (kn ef7 (by decide) (kn ef6 (by decide) (ku ef5 (by decide))))))))))))) (kn ef16 (by decide) (kn ef15 (by decide) (kn ef14 (by decide) (kn ef13 (by decide) (kn ef12 (by decide) (kn ef11 (by decide) (kn ef10 (by decide) (kn ef9 (by decide) (kn ef8 (by decide) (kn ef7 (by decide) (ku ef6 (by decide)))))))))))) (kn ef16 (by decide) (kn ef15 (by decide) (kn ef14 (by decide) (kn ef13 (by decide) (kn ef12 (by decide) (kn ef11 (by decide) (kn ef10 (by decide) (kn ef9 (by decide) (kn ef8 (by decide) (ku ef7 (by decide))))))))))) (kn ef16 (by decide) (kn ef15 (by decide) (kn ef14 (by decide) (kn ef13 (by decide) (kn ef12 (by decide) (kn ef11 (by decide) (kn ef10 (by decide) (kn ef9 (by decide) (ku ef8 (by decide)))))))))) (kn ef16 (by decide) (kn ef15 (by decide) (kn ef14 (by decide) (kn ef13 (by decide) (kn ef12 (by decide) (kn ef11 (by decide) (kn ef10 (by decide) (ku ef9 (by decide))))))))) (kn ef16 (by decide) (kn ef15 (by decide) (kn ef14 (by decide) (kn ef13 (by decide) (kn ef12 (by decide) (kn ef11 (by decide) (ku ef10 (by decide)))))))) (kn ef16 (by decide) (kn ef15 (by decide) (kn ef14 (by decide) (kn ef13 (by decide) (kn ef12 (by decide) (ku ef11 (by decide))))))) (kn ef16 (by decide) (kn ef15 (by decide) (kn ef14 (by decide) (kn ef13 (by decide) (ku ef12 (by decide)))))) (kn ef16 (by decide) (kn ef15 (by decide) (kn ef14 (by decide) (ku ef13 (by decide))))) (kn ef16 (by decide) (kn ef15 (by decide) (ku ef14 (by decide)))) (kn ef16 (by decide) (ku ef15 (by decide))) (ku ef16 (by decide))) (cwV 2 hG (gV wd_825 wd_826 wd_827 wd_6 wd_828) rfl rfl rfl (by decide +kernel) ⟨Nat.le_of_ble_eq_true rfl, Nat.le_of_ble_eq_true rfl⟩) ⟨fun a U g mk q => by obtain ⟨q0, q1, qP, qK, qD⟩ := q; exact ⟨q0, q1, qP, va_K.moved (u := U) (U := U.calling g mk a) (Vm.Alike.refl U.vm) qK, qD⟩, va_recv hKc hPc (ci := 2) (q0 := 0) rfl rfl, fun U hU hW => ⟨rfl, by rw [hU], by rw [hU]; exact hPc, va_K.moved hW.alike hKc, hDc.weaken (fun _ _ _ _ => trivial)⟩⟩ rfl rfl hl.1 rfl (lv_room (Nat.le_of_ble_eq_true rfl)) dX2_restart_54 ⟨by decide, by decide⟩) hS (fun q _ h => hFc q h) hFc (fun u22 t H1 locs ht hvm hw hB hz1 hk1 hS => ?_)
  obtain ⟨u22_0, rfl⟩ : ∃ z, z = u22 := ⟨_, rfl⟩
  have hw : (∀ j, iv (u22_0 j) 0 0) ∧ u22_0 0 = 0 ∧ u22_0 1 = 0 ∧ u22_0 2 = 0 ∧ u22_0 3 = 0 ∧ u22_0 4 = 0 ∧ u22_0 5 = 0 ∧ u22_0 6 = 0 ∧ u22_0 7 = 0 ∧ u22_0 8 = 0 ∧ u22_0 9 = 0 ∧ u22_0 10 = 0 ∧ u22_0 11 = 0 ∧ u22_0 12 = 0 ∧ u22_0 13 = 0 ∧ u22_0 14 = 0 ∧ u22_0 15 = 0 ∧ True := hw
  obtain ⟨iu22_0, ku22_0_0, ku22_0_1, ku22_0_2, ku22_0_3, ku22_0_4, ku22_0_5, ku22_0_6, ku22_0_7, ku22_0_8, ku22_0_9, ku22_0_10, ku22_0_11, ku22_0_12, ku22_0_13, ku22_0_14, ku22_0_15, -⟩ := hw
  obtain ⟨hP1, hK1, hD1⟩ := hB
  rw [ht] at hP1
  have hK1 := va_K.moved hvm.symm hK1
  obtain ⟨hP, hD⟩ := va_join (wr := [(h2, .inr (3, [.ref h4, .ref h5, .int 0])), (h3, .inr (1, [.ref h6, .ref h7, .ref h8, .ref h9])), (h6, .inl (y1, 32768, .inl (fun _ => 0)))]) (w1 := [(h0, .inr (2, [.ref h1, .ref h2, .ref h3, .int 0, .int 0, .int 0, .int 0, .int 0])), (h1, .inl (y0, 16, .inl u22_0))]) hP hD [0, 1] [2, 3, 4] rfl rfl (by decide) (by decide) hk1 hFc hP1 hD1
  have hK := (hK.sub (tys' := [(y1, .int)]) [1] rfl).app hK1
  generalize H1 = H at hP hS ⊢
  have hP : va_P (dC, dI) vwCl [(h2, .inr (3, [.ref h4, .ref h5, .int 0])), (h3, .inr (1, [.ref h6, .ref h7, .ref h8, .ref h9])), (h6, .inl (y1, 32768, .inl (fun _ => 0))), (h0, .inr (2, [.ref h1, .ref h2, .ref h3, .int 0, .int 0, .int 0, .int 0, .int 0])), (h1, .inl (y0, 16, .inl u22_0))] H := hP
  have hD : va_D A [(h2, .inr (3, [.ref h4, .ref h5, .int 0])), (h3, .inr (1, [.ref h6, .ref h7, .ref h8, .ref h9])), (h6, .inl (y1, 32768, .inl (fun _ => 0))), (h0, .inr (2, [.ref h1, .ref h2, .ref h3, .int 0, .int 0, .int 0, .int 0, .int 0])), (h1, .inl (y0, 16, .inl u22_0))] := hD
  have hK : va_K (dC, dI) vwCl [(y1, .int), (y0, .int)] s := hK
  have hP9 := hP.sub (ws' := [(h0, .inr (2, [.ref h1, .ref h2, .ref h3, .int 0, .int 0, .int 0, .int 0, .int 0])), (h1, .inl (y0, 16, .inl u22_0)), (h2, .inr (3, [.ref h4, .ref h5, .int 0])), (h3, .inr (1, [.ref h6, .ref h7, .ref h8, .ref h9])), (h6, .inl (y1, 32768, .inl (fun _ => 0)))]) [3, 4, 0, 1, 2] rfl
  have hD9 := hD.sub (ws' := [(h0, .inr (2, [.ref h1, .ref h2, .ref h3, .int 0, .int 0, .int 0, .int 0, .int 0])), (h1, .inl (y0, 16, .inl u22_0)), (h2, .inr (3, [.ref h4, .ref h5, .int 0])), (h3, .inr (1, [.ref h6, .ref h7, .ref h8, .ref h9])), (h6, .inl (y1, 32768, .inl (fun _ => 0)))]) [3, 4, 0, 1, 2] (by decide) rfl
  have hK9 := hK.sub (tys' := [(y0, .int), (y1, .int)]) [1, 0] rfl
  exact W.vret hx hb hr (fun t ht hW => ⟨⟨u22_0, rfl, ⟨(fun j => iv_w (iu22_0 j) (by decide) (by decide)), ku22_0_0, ku22_0_1, ku22_0_2, ku22_0_3, ku22_0_4, ku22_0_5, ku22_0_6, ku22_0_7, ku22_0_8, ku22_0_9, ku22_0_10, ku22_0_11, ku22_0_12, ku22_0_13, ku22_0_14, ku22_0_15, trivial⟩, by rw [ht]; exact hP9, va_K.moved hW.alike hK9, hD9⟩, hS.F ht⟩) hS.2.2 dX2_restart_57
set_option maxHeartbeats 4000000 in
set_option maxRecDepth 100000 in
theorem cX11_reset_1 (l : Launch) (dC : Nat → ClassId) (dI : Nat → Nat → Nat) (h0 h1 h2 h3 h4 h5 h6 h7 h8 h9 h10 h11 h12 h13 h14 h15 : Nat) (y0 y1 y2 y3 : ClassId) (sz : Nat) : Met l yX11_reset (Cond.code yX11_reset cX11_reset 1 none :: lw_G) ({ frames := 3, cells := 0, slots := 0, locals := 61 }) (va_Pc [.ref h0] (fun U => U.heap.size = sz ∧ va_P (dC, dI) vwCl [(h0, .inr (11, [.ref h1, .ref h2, .ref h3, .ref h4, .ref h5, .int 0, .int 0])), (h2, .inr (1, [.ref h6, .ref h7, .ref h8, .ref h9])), (h7, .inr (7, [.int 0, .int 0, .int 0, .int 0, .int 0])), (h8, .inr (5, [.int 304, .int 0, .int 0, .int 0, .int 0, .int 0])), (h9, .inr (9, [.ref h10, .ref h11, .int 0, .int 0, .int 0, .int 0])), (h10, .inl (y0, 3, .inl (fun _ => 0))), (h11, .inl (y1, 3, .inl (fun _ => 0))), (h3, .inr (2, [.ref h12, .ref h13, .ref h2, .int 0, .int 0, .int 0, .int 0, .int 0])), (h12, .inl (y2, 16, .inl (fun _ => 0))), (h13, .inr (3, [.ref h14, .ref h15, .int 0])), (h6, .inl (y3, 32768, .inl (fun _ => 0)))] U.heap ∧ va_K (dC, dI) vwCl [(y0, .int), (y1, .int), (y2, .int), (y3, .int)] U ∧ va_D (fun _ => True) [(h0, .inr (11, [.ref h1, .ref h2, .ref h3, .ref h4, .ref h5, .int 0, .int 0])), (h2, .inr (1, [.ref h6, .ref h7, .ref h8, .ref h9])), (h7, .inr (7, [.int 0, .int 0, .int 0, .int 0, .int 0])), (h8, .inr (5, [.int 304, .int 0, .int 0, .int 0, .int 0, .int 0])), (h9, .inr (9, [.ref h10, .ref h11, .int 0, .int 0, .int 0, .int 0])), (h10, .inl (y0, 3, .inl (fun _ => 0))), (h11, .inl (y1, 3, .inl (fun _ => 0))), (h3, .inr (2, [.ref h12, .ref h13, .ref h2, .int 0, .int 0, .int 0, .int 0, .int 0])), (h12, .inl (y2, 16, .inl (fun _ => 0))), (h13, .inr (3, [.ref h14, .ref h15, .int 0])), (h6, .inl (y3, 32768, .inl (fun _ => 0)))])) (va_Qv (fun (u : (Nat → Int32) × (Nat → Int32) × (Nat → Int32)) => (∀ j, iv (u.1 j) 0 0) ∧ u.1 0 = 0 ∧ u.1 1 = 0 ∧ u.1 2 = 0 ∧ (∀ j, iv (u.2.1 j) 0 0) ∧ u.2.1 0 = 0 ∧ u.2.1 1 = 0 ∧ u.2.1 2 = 0 ∧ (∀ j, iv (u.2.2 j) 0 0) ∧ u.2.2 0 = 0 ∧ u.2.2 1 = 0 ∧ u.2.2 2 = 0 ∧ u.2.2 3 = 0 ∧ u.2.2 4 = 0 ∧ u.2.2 5 = 0 ∧ u.2.2 6 = 0 ∧ u.2.2 7 = 0 ∧ u.2.2 8 = 0 ∧ u.2.2 9 = 0 ∧ u.2.2 10 = 0 ∧ u.2.2 11 = 0 ∧ u.2.2 12 = 0 ∧ u.2.2 13 = 0 ∧ u.2.2 14 = 0 ∧ u.2.2 15 = 0 ∧ True) (fun (u : (Nat → Int32) × (Nat → Int32) × (Nat → Int32)) (t : State) => va_P (dC, dI) vwCl [(h0, .inr (11, [.ref h1, .ref h2, .ref h3, .ref h4, .ref h5, .int 0, .int 0])), (h2, .inr (1, [.ref h6, .ref h7, .ref h8, .ref h9])), (h7, .inr (7, [.int 0, .int 0, .int 0, .int 0, .int 0])), (h8, .inr (5, [.int 304, .int 0, .int 0, .int 0, .int 0, .int 0])), (h9, .inr (9, [.ref h10, .ref h11, .int 0, .int 0, .int 0, .int 0])), (h10, .inl (y0, 3, .inl u.1)), (h11, .inl (y1, 3, .inl u.2.1)), (h3, .inr (2, [.ref h12, .ref h13, .ref h2, .int 0, .int 0, .int 0, .int 0, .int 0])), (h12, .inl (y2, 16, .inl u.2.2)), (h13, .inr (3, [.ref h14, .ref h15, .int 0])), (h6, .inl (y3, 32768, .inl (fun _ => 0)))] t.heap ∧ va_K (dC, dI) vwCl [(y0, .int), (y1, .int), (y2, .int), (y3, .int)] t ∧ va_D (va_A [(h0, .inr (11, [.ref h1, .ref h2, .ref h3, .ref h4, .ref h5, .int 0, .int 0])), (h2, .inr (1, [.ref h6, .ref h7, .ref h8, .ref h9])), (h7, .inr (7, [.int 0, .int 0, .int 0, .int 0, .int 0])), (h8, .inr (5, [.int 304, .int 0, .int 0, .int 0, .int 0, .int 0])), (h9, .inr (9, [.ref h10, .ref h11, .int 0, .int 0, .int 0, .int 0])), (h10, .inl (y0, 3, .inl (fun _ => 0))), (h11, .inl (y1, 3, .inl (fun _ => 0))), (h3, .inr (2, [.ref h12, .ref h13, .ref h2, .int 0, .int 0, .int 0, .int 0, .int 0])), (h12, .inl (y2, 16, .inl (fun _ => 0))), (h13, .inr (3, [.ref h14, .ref h15, .int 0])), (h6, .inl (y3, 32768, .inl (fun _ => 0)))] sz) [(h0, .inr (11, [.ref h1, .ref h2, .ref h3, .ref h4, .ref h5, .int 0, .int 0])), (h2, .inr (1, [.ref h6, .ref h7, .ref h8, .ref h9])), (h7, .inr (7, [.int 0, .int 0, .int 0, .int 0, .int 0])), (h8, .inr (5, [.int 304, .int 0, .int 0, .int 0, .int 0, .int 0])), (h9, .inr (9, [.ref h10, .ref h11, .int 0, .int 0, .int 0, .int 0])), (h10, .inl (y0, 3, .inl u.1)), (h11, .inl (y1, 3, .inl u.2.1)), (h3, .inr (2, [.ref h12, .ref h13, .ref h2, .int 0, .int 0, .int 0, .int 0, .int 0])), (h12, .inl (y2, 16, .inl u.2.2)), (h13, .inr (3, [.ref h14, .ref h15, .int 0])), (h6, .inl (y3, 32768, .inl (fun _ => 0)))]) (va_A [(h0, .inr (11, [.ref h1, .ref h2, .ref h3, .ref h4, .ref h5, .int 0, .int 0])), (h2, .inr (1, [.ref h6, .ref h7, .ref h8, .ref h9])), (h7, .inr (7, [.int 0, .int 0, .int 0, .int 0, .int 0])), (h8, .inr (5, [.int 304, .int 0, .int 0, .int 0, .int 0, .int 0])), (h9, .inr (9, [.ref h10, .ref h11, .int 0, .int 0, .int 0, .int 0])), (h10, .inl (y0, 3, .inl (fun _ => 0))), (h11, .inl (y1, 3, .inl (fun _ => 0))), (h3, .inr (2, [.ref h12, .ref h13, .ref h2, .int 0, .int 0, .int 0, .int 0, .int 0])), (h12, .inl (y2, 16, .inl (fun _ => 0))), (h13, .inr (3, [.ref h14, .ref h15, .int 0])), (h6, .inl (y3, 32768, .inl (fun _ => 0)))] sz)) 0 0 (va_A [(h0, .inr (11, [.ref h1, .ref h2, .ref h3, .ref h4, .ref h5, .int 0, .int 0])), (h2, .inr (1, [.ref h6, .ref h7, .ref h8, .ref h9])), (h7, .inr (7, [.int 0, .int 0, .int 0, .int 0, .int 0])), (h8, .inr (5, [.int 304, .int 0, .int 0, .int 0, .int 0, .int 0])), (h9, .inr (9, [.ref h10, .ref h11, .int 0, .int 0, .int 0, .int 0])), (h10, .inl (y0, 3, .inl (fun _ => 0))), (h11, .inl (y1, 3, .inl (fun _ => 0))), (h3, .inr (2, [.ref h12, .ref h13, .ref h2, .int 0, .int 0, .int 0, .int 0, .int 0])), (h12, .inl (y2, 16, .inl (fun _ => 0))), (h13, .inr (3, [.ref h14, .ref h15, .int 0])), (h6, .inl (y3, 32768, .inl (fun _ => 0)))] sz) := by
  refine Met.ofW (cc := cX11_reset) (maxL := 1) (ret := none) (by decide) rfl ?_
  intro p e s m args below meth c s₁ B hml hv
  obtain ⟨rfl, hsz, hP, hK, hD0⟩ := hv
  have hx := B.exec
  have hb := B.bytes
  have hr := B.returns
  have hts0 := atoms_spec (ws := Cond.code yX11_reset cX11_reset 1 none :: lw_G) B.pre
  have hG : ∀ w ∈ lw_G, w.before _ s = true := fun w h => hts0 w (List.mem_cons_of_mem _ h)
  have hown : s.vm.findClass RX11 = some m.cls := findClass_of_methodNamed B.named
  have hlocks := B.notSynchronized
  subst hsz
  have hD := hD0.self (sz := s.heap.size)
  generalize hAe : va_A [(h0, .inr (11, [.ref h1, .ref h2, .ref h3, .ref h4, .ref h5, .int 0, .int 0])), (h2, .inr (1, [.ref h6, .ref h7, .ref h8, .ref h9])), (h7, .inr (7, [.int 0, .int 0, .int 0, .int 0, .int 0])), (h8, .inr (5, [.int 304, .int 0, .int 0, .int 0, .int 0, .int 0])), (h9, .inr (9, [.ref h10, .ref h11, .int 0, .int 0, .int 0, .int 0])), (h10, .inl (y0, 3, .inl (fun _ => 0))), (h11, .inl (y1, 3, .inl (fun _ => 0))), (h3, .inr (2, [.ref h12, .ref h13, .ref h2, .int 0, .int 0, .int 0, .int 0, .int 0])), (h12, .inl (y2, 16, .inl (fun _ => 0))), (h13, .inr (3, [.ref h14, .ref h15, .int 0])), (h6, .inl (y3, 32768, .inl (fun _ => 0)))] s.heap.size = A at hD ⊢
  have hA : ∀ q : Nat, s.heap.size ≤ q → A q := fun q h => by rw [← hAe]; exact Or.inr h
  have hS : va_S A s.heap s.heap [] := va_S.rf
  have hP : va_P (dC, dI) vwCl [(h0, .inr (11, [.ref h1, .ref h2, .ref h3, .ref h4, .ref h5, .int 0, .int 0])), (h2, .inr (1, [.ref h6, .ref h7, .ref h8, .ref h9])), (h7, .inr (7, [.int 0, .int 0, .int 0, .int 0, .int 0])), (h8, .inr (5, [.int 304, .int 0, .int 0, .int 0, .int 0, .int 0])), (h9, .inr (9, [.ref h10, .ref h11, .int 0, .int 0, .int 0, .int 0])), (h10, .inl (y0, 3, .inl (fun _ => 0))), (h11, .inl (y1, 3, .inl (fun _ => 0))), (h3, .inr (2, [.ref h12, .ref h13, .ref h2, .int 0, .int 0, .int 0, .int 0, .int 0])), (h12, .inl (y2, 16, .inl (fun _ => 0))), (h13, .inr (3, [.ref h14, .ref h15, .int 0])), (h6, .inl (y3, 32768, .inl (fun _ => 0)))] s.heap := hP
  have hl := lv_entry ([.ref h0]) (n := 1) (Nat.le_of_ble_eq_true rfl)
  rw [lg_entry_eq]
  generalize (lg_sl ([.ref h0]) ++ List.replicate (1 - (lg_sl ([.ref h0])).length) Slot.unset).toArray = ls at hl ⊢
  have hl : lv_has ls 1 [(0, .ref h0)] := hl
  refine lv_aload_n hx hb dX11_reset_0 rfl (lv_at hl 0 rfl) ?_
  refine va_get (D := (dC, dI)) (ci := 11) (v := .ref h2) (C := RX11) (T := TX11) (N := 7) hx hb hG inGX11 hown hK hP 0 rfl rfl 1 (by decide) (hG _ wd_396) (fun _ h9 => h9) rfl dX11_reset_1 ?_
  have hPc := hP.sub (ws' := [(h2, .inr (1, [.ref h6, .ref h7, .ref h8, .ref h9])), (h7, .inr (7, [.int 0, .int 0, .int 0, .int 0, .int 0])), (h8, .inr (5, [.int 304, .int 0, .int 0, .int 0, .int 0, .int 0])), (h9, .inr (9, [.ref h10, .ref h11, .int 0, .int 0, .int 0, .int 0])), (h10, .inl (y0, 3, .inl (fun _ => 0))), (h11, .inl (y1, 3, .inl (fun _ => 0)))]) [1, 2, 3, 4, 5, 6] rfl
  have hDc := hD.sub (ws' := [(h2, .inr (1, [.ref h6, .ref h7, .ref h8, .ref h9])), (h7, .inr (7, [.int 0, .int 0, .int 0, .int 0, .int 0])), (h8, .inr (5, [.int 304, .int 0, .int 0, .int 0, .int 0, .int 0])), (h9, .inr (9, [.ref h10, .ref h11, .int 0, .int 0, .int 0, .int 0])), (h10, .inl (y0, 3, .inl (fun _ => 0))), (h11, .inl (y1, 3, .inl (fun _ => 0)))]) [1, 2, 3, 4, 5, 6] (by decide) rfl
  have hKc := hK.sub (tys' := [(y0, .int), (y1, .int)]) [0, 1] rfl
  have hFc := va_free (wc := [(h2, .inr (1, [.ref h6, .ref h7, .ref h8, .ref h9])), (h7, .inr (7, [.int 0, .int 0, .int 0, .int 0, .int 0])), (h8, .inr (5, [.int 304, .int 0, .int 0, .int 0, .int 0, .int 0])), (h9, .inr (9, [.ref h10, .ref h11, .int 0, .int 0, .int 0, .int 0])), (h10, .inl (y0, 3, .inl (fun _ => 0))), (h11, .inl (y1, 3, .inl (fun _ => 0)))]) hD hS hA [1, 2, 3, 4, 5, 6] rfl
  refine va_callv (va_runV (As := []) (rest := []) ⟨hx, hb, hml, hown, hG⟩ (cX1_clearThings_1 l dC dI h2 h6 h7 h8 h9 h10 h11 y0 y1 s.heap.size) (cwV 0 hG (gV wd_796 wd_797 wd_798 wd_2 wd_799) rfl rfl rfl (by decide +kernel) ⟨Nat.le_of_ble_eq_true rfl, Nat.le_of_ble_eq_true rfl⟩) ⟨fun a U g mk q => by obtain ⟨q0, q1, qP, qK, qD⟩ := q; exact ⟨q0, q1, qP, va_K.moved (u := U) (U := U.calling g mk a) (Vm.Alike.refl U.vm) qK, qD⟩, va_recv hKc hPc (ci := 1) (q0 := 0) rfl rfl, fun U hU hW => ⟨rfl, by rw [hU], by rw [hU]; exact hPc, va_K.moved hW.alike hKc, hDc.weaken (fun _ _ _ _ => trivial)⟩⟩ rfl rfl hl.1 rfl (lv_room (Nat.le_of_ble_eq_true rfl)) dX11_reset_4 ⟨by decide, by decide⟩) hS (fun q _ h => hFc q h) hFc (fun u2 t H1 locs ht hvm hw hB hz1 hk1 hS => ?_)
  obtain ⟨u2_0, u2_1⟩ := u2
  have hw : (∀ j, iv (u2_0 j) 0 0) ∧ u2_0 0 = 0 ∧ u2_0 1 = 0 ∧ u2_0 2 = 0 ∧ (∀ j, iv (u2_1 j) 0 0) ∧ u2_1 0 = 0 ∧ u2_1 1 = 0 ∧ u2_1 2 = 0 ∧ True := hw
  obtain ⟨iu2_0, ku2_0_0, ku2_0_1, ku2_0_2, iu2_1, ku2_1_0, ku2_1_1, ku2_1_2, -⟩ := hw
  obtain ⟨hP1, hK1, hD1⟩ := hB
  rw [ht] at hP1
  have hK1 := va_K.moved hvm.symm hK1
  obtain ⟨hP, hD⟩ := va_join (wr := [(h0, .inr (11, [.ref h1, .ref h2, .ref h3, .ref h4, .ref h5, .int 0, .int 0])), (h3, .inr (2, [.ref h12, .ref h13, .ref h2, .int 0, .int 0, .int 0, .int 0, .int 0])), (h12, .inl (y2, 16, .inl (fun _ => 0))), (h13, .inr (3, [.ref h14, .ref h15, .int 0])), (h6, .inl (y3, 32768, .inl (fun _ => 0)))]) (w1 := [(h2, .inr (1, [.ref h6, .ref h7, .ref h8, .ref h9])), (h7, .inr (7, [.int 0, .int 0, .int 0, .int 0, .int 0])), (h8, .inr (5, [.int 304, .int 0, .int 0, .int 0, .int 0, .int 0])), (h9, .inr (9, [.ref h10, .ref h11, .int 0, .int 0, .int 0, .int 0])), (h10, .inl (y0, 3, .inl u2_0)), (h11, .inl (y1, 3, .inl u2_1))]) hP hD [1, 2, 3, 4, 5, 6] [0, 7, 8, 9, 10] rfl rfl (by decide) (by decide) hk1 hFc hP1 hD1
  have hK := (hK.sub (tys' := [(y2, .int), (y3, .int)]) [2, 3] rfl).app hK1
  generalize H1 = H at hP hS ⊢
  have hP : va_P (dC, dI) vwCl [(h0, .inr (11, [.ref h1, .ref h2, .ref h3, .ref h4, .ref h5, .int 0, .int 0])), (h3, .inr (2, [.ref h12, .ref h13, .ref h2, .int 0, .int 0, .int 0, .int 0, .int 0])), (h12, .inl (y2, 16, .inl (fun _ => 0))), (h13, .inr (3, [.ref h14, .ref h15, .int 0])), (h6, .inl (y3, 32768, .inl (fun _ => 0))), (h2, .inr (1, [.ref h6, .ref h7, .ref h8, .ref h9])), (h7, .inr (7, [.int 0, .int 0, .int 0, .int 0, .int 0])), (h8, .inr (5, [.int 304, .int 0, .int 0, .int 0, .int 0, .int 0])), (h9, .inr (9, [.ref h10, .ref h11, .int 0, .int 0, .int 0, .int 0])), (h10, .inl (y0, 3, .inl u2_0)), (h11, .inl (y1, 3, .inl u2_1))] H := hP
  have hD : va_D A [(h0, .inr (11, [.ref h1, .ref h2, .ref h3, .ref h4, .ref h5, .int 0, .int 0])), (h3, .inr (2, [.ref h12, .ref h13, .ref h2, .int 0, .int 0, .int 0, .int 0, .int 0])), (h12, .inl (y2, 16, .inl (fun _ => 0))), (h13, .inr (3, [.ref h14, .ref h15, .int 0])), (h6, .inl (y3, 32768, .inl (fun _ => 0))), (h2, .inr (1, [.ref h6, .ref h7, .ref h8, .ref h9])), (h7, .inr (7, [.int 0, .int 0, .int 0, .int 0, .int 0])), (h8, .inr (5, [.int 304, .int 0, .int 0, .int 0, .int 0, .int 0])), (h9, .inr (9, [.ref h10, .ref h11, .int 0, .int 0, .int 0, .int 0])), (h10, .inl (y0, 3, .inl u2_0)), (h11, .inl (y1, 3, .inl u2_1))] := hD
  have hK : va_K (dC, dI) vwCl [(y2, .int), (y3, .int), (y0, .int), (y1, .int)] s := hK
  refine lv_aload_n hx hb dX11_reset_7 rfl (lv_at hl 0 rfl) ?_
  refine va_get (D := (dC, dI)) (ci := 11) (v := .ref h3) (C := RX11) (T := TX11) (N := 7) hx hb hG inGX11 hown hK hP 0 rfl rfl 2 (by decide) (hG _ wd_397) (fun _ h9 => h9) rfl dX11_reset_8 ?_
  have hPc := hP.sub (ws' := [(h3, .inr (2, [.ref h12, .ref h13, .ref h2, .int 0, .int 0, .int 0, .int 0, .int 0])), (h12, .inl (y2, 16, .inl (fun _ => 0))), (h13, .inr (3, [.ref h14, .ref h15, .int 0])), (h2, .inr (1, [.ref h6, .ref h7, .ref h8, .ref h9])), (h6, .inl (y3, 32768, .inl (fun _ => 0)))]) [1, 2, 3, 5, 4] rfl
  have hDc := hD.sub (ws' := [(h3, .inr (2, [.ref h12, .ref h13, .ref h2, .int 0, .int 0, .int 0, .int 0, .int 0])), (h12, .inl (y2, 16, .inl (fun _ => 0))), (h13, .inr (3, [.ref h14, .ref h15, .int 0])), (h2, .inr (1, [.ref h6, .ref h7, .ref h8, .ref h9])), (h6, .inl (y3, 32768, .inl (fun _ => 0)))]) [1, 2, 3, 5, 4] (by decide) rfl
  have hKc := hK.sub (tys' := [(y2, .int), (y3, .int)]) [0, 1] rfl
  have hFc := va_free (wc := [(h3, .inr (2, [.ref h12, .ref h13, .ref h2, .int 0, .int 0, .int 0, .int 0, .int 0])), (h12, .inl (y2, 16, .inl (fun _ => 0))), (h13, .inr (3, [.ref h14, .ref h15, .int 0])), (h2, .inr (1, [.ref h6, .ref h7, .ref h8, .ref h9])), (h6, .inl (y3, 32768, .inl (fun _ => 0)))]) hD hS hA [1, 2, 3, 5, 4] rfl
  refine va_callv (va_runV (As := []) (rest := []) ⟨hx, hb, hml, hown, hG⟩ (cX2_restart_1 l dC dI h3 h12 h13 h2 h14 h15 h6 h7 h8 h9 y2 y3 H.size) (cwV 0 hG (gV wd_812 wd_813 wd_814 wd_6 wd_815) rfl rfl rfl (by decide +kernel) ⟨Nat.le_of_ble_eq_true rfl, Nat.le_of_ble_eq_true rfl⟩) ⟨fun a U g mk q => by obtain ⟨q0, q1, qP, qK, qD⟩ := q; exact ⟨q0, q1, qP, va_K.moved (u := U) (U := U.calling g mk a) (Vm.Alike.refl U.vm) qK, qD⟩, va_recv hKc hPc (ci := 2) (q0 := 0) rfl rfl, fun U hU hW => ⟨rfl, by rw [hU], by rw [hU]; exact hPc, va_K.moved hW.alike hKc, hDc.weaken (fun _ _ _ _ => trivial)⟩⟩ rfl rfl hl.1 rfl (lv_room (Nat.le_of_ble_eq_true rfl)) dX11_reset_11 ⟨by decide, by decide⟩) hS (fun q _ h => hFc q h) hFc (fun u4 t H1 locs ht hvm hw hB hz1 hk1 hS => ?_)
  obtain ⟨u4_0, rfl⟩ : ∃ z, z = u4 := ⟨_, rfl⟩
  have hw : (∀ j, iv (u4_0 j) 0 0) ∧ u4_0 0 = 0 ∧ u4_0 1 = 0 ∧ u4_0 2 = 0 ∧ u4_0 3 = 0 ∧ u4_0 4 = 0 ∧ u4_0 5 = 0 ∧ u4_0 6 = 0 ∧ u4_0 7 = 0 ∧ u4_0 8 = 0 ∧ u4_0 9 = 0 ∧ u4_0 10 = 0 ∧ u4_0 11 = 0 ∧ u4_0 12 = 0 ∧ u4_0 13 = 0 ∧ u4_0 14 = 0 ∧ u4_0 15 = 0 ∧ True := hw
  obtain ⟨iu4_0, ku4_0_0, ku4_0_1, ku4_0_2, ku4_0_3, ku4_0_4, ku4_0_5, ku4_0_6, ku4_0_7, ku4_0_8, ku4_0_9, ku4_0_10, ku4_0_11, ku4_0_12, ku4_0_13, ku4_0_14, ku4_0_15, -⟩ := hw
  obtain ⟨hP1, hK1, hD1⟩ := hB
  rw [ht] at hP1
  have hK1 := va_K.moved hvm.symm hK1
  obtain ⟨hP, hD⟩ := va_join (wr := [(h0, .inr (11, [.ref h1, .ref h2, .ref h3, .ref h4, .ref h5, .int 0, .int 0])), (h7, .inr (7, [.int 0, .int 0, .int 0, .int 0, .int 0])), (h8, .inr (5, [.int 304, .int 0, .int 0, .int 0, .int 0, .int 0])), (h9, .inr (9, [.ref h10, .ref h11, .int 0, .int 0, .int 0, .int 0])), (h10, .inl (y0, 3, .inl u2_0)), (h11, .inl (y1, 3, .inl u2_1))]) (w1 := [(h3, .inr (2, [.ref h12, .ref h13, .ref h2, .int 0, .int 0, .int 0, .int 0, .int 0])), (h12, .inl (y2, 16, .inl u4_0)), (h13, .inr (3, [.ref h14, .ref h15, .int 0])), (h2, .inr (1, [.ref h6, .ref h7, .ref h8, .ref h9])), (h6, .inl (y3, 32768, .inl (fun _ => 0)))]) hP hD [1, 2, 3, 5, 4] [0, 6, 7, 8, 9, 10] rfl rfl (by decide) (by decide) hk1 hFc hP1 hD1
  have hK := (hK.sub (tys' := [(y0, .int), (y1, .int)]) [2, 3] rfl).app hK1
  generalize H1 = H at hP hS ⊢
  have hP : va_P (dC, dI) vwCl [(h0, .inr (11, [.ref h1, .ref h2, .ref h3, .ref h4, .ref h5, .int 0, .int 0])), (h7, .inr (7, [.int 0, .int 0, .int 0, .int 0, .int 0])), (h8, .inr (5, [.int 304, .int 0, .int 0, .int 0, .int 0, .int 0])), (h9, .inr (9, [.ref h10, .ref h11, .int 0, .int 0, .int 0, .int 0])), (h10, .inl (y0, 3, .inl u2_0)), (h11, .inl (y1, 3, .inl u2_1)), (h3, .inr (2, [.ref h12, .ref h13, .ref h2, .int 0, .int 0, .int 0, .int 0, .int 0])), (h12, .inl (y2, 16, .inl u4_0)), (h13, .inr (3, [.ref h14, .ref h15, .int 0])), (h2, .inr (1, [.ref h6, .ref h7, .ref h8, .ref h9])), (h6, .inl (y3, 32768, .inl (fun _ => 0)))] H := hP
  have hD : va_D A [(h0, .inr (11, [.ref h1, .ref h2, .ref h3, .ref h4, .ref h5, .int 0, .int 0])), (h7, .inr (7, [.int 0, .int 0, .int 0, .int 0, .int 0])), (h8, .inr (5, [.int 304, .int 0, .int 0, .int 0, .int 0, .int 0])), (h9, .inr (9, [.ref h10, .ref h11, .int 0, .int 0, .int 0, .int 0])), (h10, .inl (y0, 3, .inl u2_0)), (h11, .inl (y1, 3, .inl u2_1)), (h3, .inr (2, [.ref h12, .ref h13, .ref h2, .int 0, .int 0, .int 0, .int 0, .int 0])), (h12, .inl (y2, 16, .inl u4_0)), (h13, .inr (3, [.ref h14, .ref h15, .int 0])), (h2, .inr (1, [.ref h6, .ref h7, .ref h8, .ref h9])), (h6, .inl (y3, 32768, .inl (fun _ => 0)))] := hD
  have hK : va_K (dC, dI) vwCl [(y0, .int), (y1, .int), (y2, .int), (y3, .int)] s := hK
  have hP9 := hP.sub (ws' := [(h0, .inr (11, [.ref h1, .ref h2, .ref h3, .ref h4, .ref h5, .int 0, .int 0])), (h2, .inr (1, [.ref h6, .ref h7, .ref h8, .ref h9])), (h7, .inr (7, [.int 0, .int 0, .int 0, .int 0, .int 0])), (h8, .inr (5, [.int 304, .int 0, .int 0, .int 0, .int 0, .int 0])), (h9, .inr (9, [.ref h10, .ref h11, .int 0, .int 0, .int 0, .int 0])), (h10, .inl (y0, 3, .inl u2_0)), (h11, .inl (y1, 3, .inl u2_1)), (h3, .inr (2, [.ref h12, .ref h13, .ref h2, .int 0, .int 0, .int 0, .int 0, .int 0])), (h12, .inl (y2, 16, .inl u4_0)), (h13, .inr (3, [.ref h14, .ref h15, .int 0])), (h6, .inl (y3, 32768, .inl (fun _ => 0)))]) [0, 9, 1, 2, 3, 4, 5, 6, 7, 8, 10] rfl
  have hD9 := hD.sub (ws' := [(h0, .inr (11, [.ref h1, .ref h2, .ref h3, .ref h4, .ref h5, .int 0, .int 0])), (h2, .inr (1, [.ref h6, .ref h7, .ref h8, .ref h9])), (h7, .inr (7, [.int 0, .int 0, .int 0, .int 0, .int 0])), (h8, .inr (5, [.int 304, .int 0, .int 0, .int 0, .int 0, .int 0])), (h9, .inr (9, [.ref h10, .ref h11, .int 0, .int 0, .int 0, .int 0])), (h10, .inl (y0, 3, .inl u2_0)), (h11, .inl (y1, 3, .inl u2_1)), (h3, .inr (2, [.ref h12, .ref h13, .ref h2, .int 0, .int 0, .int 0, .int 0, .int 0])), (h12, .inl (y2, 16, .inl u4_0)), (h13, .inr (3, [.ref h14, .ref h15, .int 0])), (h6, .inl (y3, 32768, .inl (fun _ => 0)))]) [0, 9, 1, 2, 3, 4, 5, 6, 7, 8, 10] (by decide) rfl
  have hK9 := hK.sub (tys' := [(y0, .int), (y1, .int), (y2, .int), (y3, .int)]) [0, 1, 2, 3] rfl
  exact W.vret hx hb hr (fun t ht hW => ⟨⟨(u2_0, u2_1, u4_0), rfl, ⟨(fun j => iv_w (iu2_0 j) (by decide) (by decide)), ku2_0_0, ku2_0_1, ku2_0_2, (fun j => iv_w (iu2_1 j) (by decide) (by decide)), ku2_1_0, ku2_1_1, ku2_1_2, (fun j => iv_w (iu4_0 j) (by decide) (by decide)), ku4_0_0, ku4_0_1, ku4_0_2, ku4_0_3, ku4_0_4, ku4_0_5, ku4_0_6, ku4_0_7, ku4_0_8, ku4_0_9, ku4_0_10, ku4_0_11, ku4_0_12, ku4_0_13, ku4_0_14, ku4_0_15, trivial⟩, by rw [ht]; exact hP9, va_K.moved hW.alike hK9, hD9⟩, hS.F ht⟩) hS.2.2 dX11_reset_14
set_option maxHeartbeats 4000000 in
set_option maxRecDepth 100000 in
theorem cX2_expect_1 (l : Launch) (dC : Nat → ClassId) (dI : Nat → Nat → Nat) (h0 h1 h2 h3 : Nat) (sz : Nat) (x0 x1 : Int32) (ix0 : iv x0 (-2147483648) (-1)) (ix1 : iv x1 (-2147483648) (-1)) : Met l yX2_expect (Cond.code yX2_expect cX2_expect 3 (some .int) :: lw_G) ({ frames := 0, cells := 0, slots := 0, locals := 0 }) (va_Pc [.ref h0, .int x0, .int x1] (fun U => U.heap.size = sz ∧ va_P (dC, dI) vwCl [(h0, .inr (2, [.ref h1, .ref h2, .ref h3, .int 0, .int 0, .int 0, .int 0, .int 0]))] U.heap ∧ va_K (dC, dI) vwCl [] U ∧ va_D (fun _ => True) [(h0, .inr (2, [.ref h1, .ref h2, .ref h3, .int 0, .int 0, .int 0, .int 0, .int 0]))])) (va_Qi (fun (r : Int32) (u : Unit) => r = (-1) ∧ True) (fun (u : Unit) (t : State) => va_P (dC, dI) vwCl [(h0, .inr (2, [.ref h1, .ref h2, .ref h3, .int 0, .int 0, .int 0, .int 0, .int 0]))] t.heap ∧ va_K (dC, dI) vwCl [] t ∧ va_D (va_A [(h0, .inr (2, [.ref h1, .ref h2, .ref h3, .int 0, .int 0, .int 0, .int 0, .int 0]))] sz) [(h0, .inr (2, [.ref h1, .ref h2, .ref h3, .int 0, .int 0, .int 0, .int 0, .int 0]))]) (va_A [(h0, .inr (2, [.ref h1, .ref h2, .ref h3, .int 0, .int 0, .int 0, .int 0, .int 0]))] sz)) 0 0 (va_A [(h0, .inr (2, [.ref h1, .ref h2, .ref h3, .int 0, .int 0, .int 0, .int 0, .int 0]))] sz) := by
  refine Met.ofW (cc := cX2_expect) (maxL := 3) (ret := (some .int)) (by decide) rfl ?_
  intro p e s m args below meth c s₁ B hml hv
  obtain ⟨rfl, hsz, hP, hK, hD0⟩ := hv
  have hx := B.exec
  have hb := B.bytes
  have hr := B.returns
  have hts0 := atoms_spec (ws := Cond.code yX2_expect cX2_expect 3 (some .int) :: lw_G) B.pre
  have hG : ∀ w ∈ lw_G, w.before _ s = true := fun w h => hts0 w (List.mem_cons_of_mem _ h)
  have hown : s.vm.findClass RX2 = some m.cls := findClass_of_methodNamed B.named
  have hlocks := B.notSynchronized
  subst hsz
  have hD := hD0.self (sz := s.heap.size)
  generalize hAe : va_A [(h0, .inr (2, [.ref h1, .ref h2, .ref h3, .int 0, .int 0, .int 0, .int 0, .int 0]))] s.heap.size = A at hD ⊢
  have hA : ∀ q : Nat, s.heap.size ≤ q → A q := fun q h => by rw [← hAe]; exact Or.inr h
  have hS : va_S A s.heap s.heap [] := va_S.rf
  have hP : va_P (dC, dI) vwCl [(h0, .inr (2, [.ref h1, .ref h2, .ref h3, .int 0, .int 0, .int 0, .int 0, .int 0]))] s.heap := hP
  have hl := lv_entry ([.ref h0, .int x0, .int x1]) (n := 3) (Nat.le_of_ble_eq_true rfl)
  rw [lg_entry_eq]
  generalize (lg_sl ([.ref h0, .int x0, .int x1]) ++ List.replicate (3 - (lg_sl ([.ref h0, .int x0, .int x1])).length) Slot.unset).toArray = ls at hl ⊢
  have hl : lv_has ls 3 [(0, .ref h0), (1, .int x0), (2, .int x1)] := hl
  refine lv_iload_n hx hb dX2_expect_0 rfl (lv_at hl 1 rfl) ?_
  refine lv_aload_n hx hb dX2_expect_1 rfl (lv_at hl 0 rfl) ?_
  refine va_get (D := (dC, dI)) (ci := 2) (v := .int 0) (C := RX2) (T := TX2) (N := 8) hx hb hG inGX2 hown hK hP 0 rfl rfl 3 (by decide) (hG _ wd_152) (fun _ h9 => h9) rfl dX2_expect_2 ?_
  refine lv_icmp_lt (tgt := 30) hx hb dX2_expect_5 (by decide) (fun _ => ?_) (fun c => absurd (iv_lt ix0 (by decide : iv 0 0 0) (by decide)) c)
  refine lv_iconst (v := (-1)) hx hb dX2_expect_30 (by decide) ?_
  have hP9 := hP.sub (ws' := [(h0, .inr (2, [.ref h1, .ref h2, .ref h3, .int 0, .int 0, .int 0, .int 0, .int 0]))]) [0] rfl
  have hD9 := hD.sub (ws' := [(h0, .inr (2, [.ref h1, .ref h2, .ref h3, .int 0, .int 0, .int 0, .int 0, .int 0]))]) [0] (by decide) rfl
  have hK9 := hK.sub (tys' := []) [] rfl
  exact W.iret (v := (-1)) hx hb hr (fun t ht hW => ⟨⟨(-1), (), rfl, ⟨rfl, trivial⟩, by rw [ht]; exact hP9, va_K.moved hW.alike hK9, hD9⟩, hS.F ht⟩) hS.2.2 dX2_expect_31
set_option maxHeartbeats 4000000 in
set_option maxRecDepth 100000 in
theorem cX11_event_1 (l : Launch) (dC : Nat → ClassId) (dI : Nat → Nat → Nat) (h0 h1 h2 h3 h4 h5 h6 h7 : Nat) (sz : Nat) (x0 x1 : Int32) (ix0 : iv x0 (-2147483648) (-1)) (ix1 : iv x1 (-2147483648) (-1)) : Met l yX11_event (Cond.code yX11_event cX11_event 3 (some .int) :: lw_G) ({ frames := 1, cells := 0, slots := 0, locals := 22 }) (va_Pc [.ref h0, .int x0, .int x1] (fun U => U.heap.size = sz ∧ va_P (dC, dI) vwCl [(h0, .inr (11, [.ref h1, .ref h2, .ref h3, .ref h4, .ref h5, .int 0, .int 0])), (h3, .inr (2, [.ref h6, .ref h7, .ref h2, .int 0, .int 0, .int 0, .int 0, .int 0]))] U.heap ∧ va_K (dC, dI) vwCl [] U ∧ va_D (fun _ => True) [(h0, .inr (11, [.ref h1, .ref h2, .ref h3, .ref h4, .ref h5, .int 0, .int 0])), (h3, .inr (2, [.ref h6, .ref h7, .ref h2, .int 0, .int 0, .int 0, .int 0, .int 0]))])) (va_Qi (fun (r : Int32) (u : Unit) => r = (-1) ∧ True) (fun (u : Unit) (t : State) => va_P (dC, dI) vwCl [(h0, .inr (11, [.ref h1, .ref h2, .ref h3, .ref h4, .ref h5, .int 0, .int 0])), (h3, .inr (2, [.ref h6, .ref h7, .ref h2, .int 0, .int 0, .int 0, .int 0, .int 0]))] t.heap ∧ va_K (dC, dI) vwCl [] t ∧ va_D (va_A [(h0, .inr (11, [.ref h1, .ref h2, .ref h3, .ref h4, .ref h5, .int 0, .int 0])), (h3, .inr (2, [.ref h6, .ref h7, .ref h2, .int 0, .int 0, .int 0, .int 0, .int 0]))] sz) [(h0, .inr (11, [.ref h1, .ref h2, .ref h3, .ref h4, .ref h5, .int 0, .int 0])), (h3, .inr (2, [.ref h6, .ref h7, .ref h2, .int 0, .int 0, .int 0, .int 0, .int 0]))]) (va_A [(h0, .inr (11, [.ref h1, .ref h2, .ref h3, .ref h4, .ref h5, .int 0, .int 0])), (h3, .inr (2, [.ref h6, .ref h7, .ref h2, .int 0, .int 0, .int 0, .int 0, .int 0]))] sz)) 0 0 (va_A [(h0, .inr (11, [.ref h1, .ref h2, .ref h3, .ref h4, .ref h5, .int 0, .int 0])), (h3, .inr (2, [.ref h6, .ref h7, .ref h2, .int 0, .int 0, .int 0, .int 0, .int 0]))] sz) := by
  refine Met.ofW (cc := cX11_event) (maxL := 3) (ret := (some .int)) (by decide) rfl ?_
  intro p e s m args below meth c s₁ B hml hv
  obtain ⟨rfl, hsz, hP, hK, hD0⟩ := hv
  have hx := B.exec
  have hb := B.bytes
  have hr := B.returns
  have hts0 := atoms_spec (ws := Cond.code yX11_event cX11_event 3 (some .int) :: lw_G) B.pre
  have hG : ∀ w ∈ lw_G, w.before _ s = true := fun w h => hts0 w (List.mem_cons_of_mem _ h)
  have hown : s.vm.findClass RX11 = some m.cls := findClass_of_methodNamed B.named
  have hlocks := B.notSynchronized
  subst hsz
  have hD := hD0.self (sz := s.heap.size)
  generalize hAe : va_A [(h0, .inr (11, [.ref h1, .ref h2, .ref h3, .ref h4, .ref h5, .int 0, .int 0])), (h3, .inr (2, [.ref h6, .ref h7, .ref h2, .int 0, .int 0, .int 0, .int 0, .int 0]))] s.heap.size = A at hD ⊢
  have hA : ∀ q : Nat, s.heap.size ≤ q → A q := fun q h => by rw [← hAe]; exact Or.inr h
  have hS : va_S A s.heap s.heap [] := va_S.rf
  have hP : va_P (dC, dI) vwCl [(h0, .inr (11, [.ref h1, .ref h2, .ref h3, .ref h4, .ref h5, .int 0, .int 0])), (h3, .inr (2, [.ref h6, .ref h7, .ref h2, .int 0, .int 0, .int 0, .int 0, .int 0]))] s.heap := hP
  have hl := lv_entry ([.ref h0, .int x0, .int x1]) (n := 3) (Nat.le_of_ble_eq_true rfl)
  rw [lg_entry_eq]
  generalize (lg_sl ([.ref h0, .int x0, .int x1]) ++ List.replicate (3 - (lg_sl ([.ref h0, .int x0, .int x1])).length) Slot.unset).toArray = ls at hl ⊢
  have hl : lv_has ls 3 [(0, .ref h0), (1, .int x0), (2, .int x1)] := hl
  refine lv_aload_n hx hb dX11_event_0 rfl (lv_at hl 0 rfl) ?_
  refine va_get (D := (dC, dI)) (ci := 11) (v := .ref h3) (C := RX11) (T := TX11) (N := 7) hx hb hG inGX11 hown hK hP 0 rfl rfl 2 (by decide) (hG _ wd_397) (fun _ h9 => h9) rfl dX11_event_1 ?_
  refine lv_iload_n hx hb dX11_event_4 rfl (lv_at hl 1 rfl) ?_
  refine lv_iload_n hx hb dX11_event_5 rfl (lv_at hl 2 rfl) ?_
  have hPc := hP.sub (ws' := [(h3, .inr (2, [.ref h6, .ref h7, .ref h2, .int 0, .int 0, .int 0, .int 0, .int 0]))]) [1] rfl
  have hDc := hD.sub (ws' := [(h3, .inr (2, [.ref h6, .ref h7, .ref h2, .int 0, .int 0, .int 0, .int 0, .int 0]))]) [1] (by decide) rfl
  have hKc := hK.sub (tys' := []) [] rfl
  have hFc := va_free (wc := [(h3, .inr (2, [.ref h6, .ref h7, .ref h2, .int 0, .int 0, .int 0, .int 0, .int 0]))]) hD hS hA [1] rfl
  refine va_calli (va_runV (As := [.int x0, .int x1]) (rest := []) ⟨hx, hb, hml, hown, hG⟩ (cX2_expect_1 l dC dI h3 h6 h7 h2 s.heap.size x0 x1 ix0 ix1) (cwV 2 hG (gV wd_834 wd_835 wd_836 wd_6 wd_837) rfl rfl rfl (by decide +kernel) ⟨Nat.le_of_ble_eq_true rfl, Nat.le_of_ble_eq_true rfl⟩) ⟨fun a U g mk q => by obtain ⟨q0, q1, qP, qK, qD⟩ := q; exact ⟨q0, q1, qP, va_K.moved (u := U) (U := U.calling g mk a) (Vm.Alike.refl U.vm) qK, qD⟩, va_recv hKc hPc (ci := 2) (q0 := 0) rfl rfl, fun U hU hW => ⟨rfl, by rw [hU], by rw [hU]; exact hPc, va_K.moved hW.alike hKc, hDc.weaken (fun _ _ _ _ => trivial)⟩⟩ rfl rfl hl.1 rfl (lv_room (Nat.le_of_ble_eq_true rfl)) dX11_event_6 ⟨by decide, by decide⟩) hS (fun q _ h => hFc q h) hFc (fun r1 u2 t H1 locs ht hvm hw hB hz1 hk1 hS => ?_)
  have hw : r1 = (-1) ∧ True := hw
  obtain ⟨er1, -⟩ := hw
  obtain ⟨hP1, hK1, hD1⟩ := hB
  rw [ht] at hP1
  have hK1 := va_K.moved hvm.symm hK1
  obtain ⟨hP, hD⟩ := va_join (wr := [(h0, .inr (11, [.ref h1, .ref h2, .ref h3, .ref h4, .ref h5, .int 0, .int 0]))]) (w1 := [(h3, .inr (2, [.ref h6, .ref h7, .ref h2, .int 0, .int 0, .int 0, .int 0, .int 0]))]) hP hD [1] [0] rfl rfl (by decide) (by decide) hk1 hFc hP1 hD1
  have hK := (hK.sub (tys' := []) [] rfl).app hK1
  generalize H1 = H at hP hS ⊢
  have hP : va_P (dC, dI) vwCl [(h0, .inr (11, [.ref h1, .ref h2, .ref h3, .ref h4, .ref h5, .int 0, .int 0])), (h3, .inr (2, [.ref h6, .ref h7, .ref h2, .int 0, .int 0, .int 0, .int 0, .int 0]))] H := hP
  have hD : va_D A [(h0, .inr (11, [.ref h1, .ref h2, .ref h3, .ref h4, .ref h5, .int 0, .int 0])), (h3, .inr (2, [.ref h6, .ref h7, .ref h2, .int 0, .int 0, .int 0, .int 0, .int 0]))] := hD
  have hK : va_K (dC, dI) vwCl [] s := hK
  subst er1
  have hP9 := hP.sub (ws' := [(h0, .inr (11, [.ref h1, .ref h2, .ref h3, .ref h4, .ref h5, .int 0, .int 0])), (h3, .inr (2, [.ref h6, .ref h7, .ref h2, .int 0, .int 0, .int 0, .int 0, .int 0]))]) [0, 1] rfl
  have hD9 := hD.sub (ws' := [(h0, .inr (11, [.ref h1, .ref h2, .ref h3, .ref h4, .ref h5, .int 0, .int 0])), (h3, .inr (2, [.ref h6, .ref h7, .ref h2, .int 0, .int 0, .int 0, .int 0, .int 0]))]) [0, 1] (by decide) rfl
  have hK9 := hK.sub (tys' := []) [] rfl
  exact W.iret (v := (-1)) hx hb hr (fun t ht hW => ⟨⟨(-1), (), rfl, ⟨rfl, trivial⟩, by rw [ht]; exact hP9, va_K.moved hW.alike hK9, hD9⟩, hS.F ht⟩) hS.2.2 dX11_event_9
set_option maxHeartbeats 4000000 in
set_option maxRecDepth 100000 in
theorem cX2_expect_2 (l : Launch) (dC : Nat → ClassId) (dI : Nat → Nat → Nat) (h0 h1 h2 h3 : Nat) (sz : Nat) (x0 x1 : Int32) (ix0 : iv x0 (-2147483648) (-1)) (ix1 : iv x1 256 2147483647) : Met l yX2_expect (Cond.code yX2_expect cX2_expect 3 (some .int) :: lw_G) ({ frames := 0, cells := 0, slots := 0, locals := 0 }) (va_Pc [.ref h0, .int x0, .int x1] (fun U => U.heap.size = sz ∧ va_P (dC, dI) vwCl [(h0, .inr (2, [.ref h1, .ref h2, .ref h3, .int 0, .int 0, .int 0, .int 0, .int 0]))] U.heap ∧ va_K (dC, dI) vwCl [] U ∧ va_D (fun _ => True) [(h0, .inr (2, [.ref h1, .ref h2, .ref h3, .int 0, .int 0, .int 0, .int 0, .int 0]))])) (va_Qi (fun (r : Int32) (u : Unit) => r = (-1) ∧ True) (fun (u : Unit) (t : State) => va_P (dC, dI) vwCl [(h0, .inr (2, [.ref h1, .ref h2, .ref h3, .int 0, .int 0, .int 0, .int 0, .int 0]))] t.heap ∧ va_K (dC, dI) vwCl [] t ∧ va_D (va_A [(h0, .inr (2, [.ref h1, .ref h2, .ref h3, .int 0, .int 0, .int 0, .int 0, .int 0]))] sz) [(h0, .inr (2, [.ref h1, .ref h2, .ref h3, .int 0, .int 0, .int 0, .int 0, .int 0]))]) (va_A [(h0, .inr (2, [.ref h1, .ref h2, .ref h3, .int 0, .int 0, .int 0, .int 0, .int 0]))] sz)) 0 0 (va_A [(h0, .inr (2, [.ref h1, .ref h2, .ref h3, .int 0, .int 0, .int 0, .int 0, .int 0]))] sz) := by
  refine Met.ofW (cc := cX2_expect) (maxL := 3) (ret := (some .int)) (by decide) rfl ?_
  intro p e s m args below meth c s₁ B hml hv
  obtain ⟨rfl, hsz, hP, hK, hD0⟩ := hv
  have hx := B.exec
  have hb := B.bytes
  have hr := B.returns
  have hts0 := atoms_spec (ws := Cond.code yX2_expect cX2_expect 3 (some .int) :: lw_G) B.pre
  have hG : ∀ w ∈ lw_G, w.before _ s = true := fun w h => hts0 w (List.mem_cons_of_mem _ h)
  have hown : s.vm.findClass RX2 = some m.cls := findClass_of_methodNamed B.named
  have hlocks := B.notSynchronized
  subst hsz
  have hD := hD0.self (sz := s.heap.size)
  generalize hAe : va_A [(h0, .inr (2, [.ref h1, .ref h2, .ref h3, .int 0, .int 0, .int 0, .int 0, .int 0]))] s.heap.size = A at hD ⊢
  have hA : ∀ q : Nat, s.heap.size ≤ q → A q := fun q h => by rw [← hAe]; exact Or.inr h
  have hS : va_S A s.heap s.heap [] := va_S.rf
  have hP : va_P (dC, dI) vwCl [(h0, .inr (2, [.ref h1, .ref h2, .ref h3, .int 0, .int 0, .int 0, .int 0, .int 0]))] s.heap := hP
  have hl := lv_entry ([.ref h0, .int x0, .int x1]) (n := 3) (Nat.le_of_ble_eq_true rfl)
  rw [lg_entry_eq]
  generalize (lg_sl ([.ref h0, .int x0, .int x1]) ++ List.replicate (3 - (lg_sl ([.ref h0, .int x0, .int x1])).length) Slot.unset).toArray = ls at hl ⊢
  have hl : lv_has ls 3 [(0, .ref h0), (1, .int x0), (2, .int x1)] := hl
  refine lv_iload_n hx hb dX2_expect_0 rfl (lv_at hl 1 rfl) ?_
  refine lv_aload_n hx hb dX2_expect_1 rfl (lv_at hl 0 rfl) ?_
  refine va_get (D := (dC, dI)) (ci := 2) (v := .int 0) (C := RX2) (T := TX2) (N := 8) hx hb hG inGX2 hown hK hP 0 rfl rfl 3 (by decide) (hG _ wd_152) (fun _ h9 => h9) rfl dX2_expect_2 ?_
  refine lv_icmp_lt (tgt := 30) hx hb dX2_expect_5 (by decide) (fun _ => ?_) (fun c => absurd (iv_lt ix0 (by decide : iv 0 0 0) (by decide)) c)
  refine lv_iconst (v := (-1)) hx hb dX2_expect_30 (by decide) ?_
  have hP9 := hP.sub (ws' := [(h0, .inr (2, [.ref h1, .ref h2, .ref h3, .int 0, .int 0, .int 0, .int 0, .int 0]))]) [0] rfl
  have hD9 := hD.sub (ws' := [(h0, .inr (2, [.ref h1, .ref h2, .ref h3, .int 0, .int 0, .int 0, .int 0, .int 0]))]) [0] (by decide) rfl
  have hK9 := hK.sub (tys' := []) [] rfl
  exact W.iret (v := (-1)) hx hb hr (fun t ht hW => ⟨⟨(-1), (), rfl, ⟨rfl, trivial⟩, by rw [ht]; exact hP9, va_K.moved hW.alike hK9, hD9⟩, hS.F ht⟩) hS.2.2 dX2_expect_31
set_option maxHeartbeats 4000000 in
set_option maxRecDepth 100000 in
theorem cX11_event_2 (l : Launch) (dC : Nat → ClassId) (dI : Nat → Nat → Nat) (h0 h1 h2 h3 h4 h5 h6 h7 : Nat) (sz : Nat) (x0 x1 : Int32) (ix0 : iv x0 (-2147483648) (-1)) (ix1 : iv x1 256 2147483647) : Met l yX11_event (Cond.code yX11_event cX11_event 3 (some .int) :: lw_G) ({ frames := 1, cells := 0, slots := 0, locals := 22 }) (va_Pc [.ref h0, .int x0, .int x1] (fun U => U.heap.size = sz ∧ va_P (dC, dI) vwCl [(h0, .inr (11, [.ref h1, .ref h2, .ref h3, .ref h4, .ref h5, .int 0, .int 0])), (h3, .inr (2, [.ref h6, .ref h7, .ref h2, .int 0, .int 0, .int 0, .int 0, .int 0]))] U.heap ∧ va_K (dC, dI) vwCl [] U ∧ va_D (fun _ => True) [(h0, .inr (11, [.ref h1, .ref h2, .ref h3, .ref h4, .ref h5, .int 0, .int 0])), (h3, .inr (2, [.ref h6, .ref h7, .ref h2, .int 0, .int 0, .int 0, .int 0, .int 0]))])) (va_Qi (fun (r : Int32) (u : Unit) => r = (-1) ∧ True) (fun (u : Unit) (t : State) => va_P (dC, dI) vwCl [(h0, .inr (11, [.ref h1, .ref h2, .ref h3, .ref h4, .ref h5, .int 0, .int 0])), (h3, .inr (2, [.ref h6, .ref h7, .ref h2, .int 0, .int 0, .int 0, .int 0, .int 0]))] t.heap ∧ va_K (dC, dI) vwCl [] t ∧ va_D (va_A [(h0, .inr (11, [.ref h1, .ref h2, .ref h3, .ref h4, .ref h5, .int 0, .int 0])), (h3, .inr (2, [.ref h6, .ref h7, .ref h2, .int 0, .int 0, .int 0, .int 0, .int 0]))] sz) [(h0, .inr (11, [.ref h1, .ref h2, .ref h3, .ref h4, .ref h5, .int 0, .int 0])), (h3, .inr (2, [.ref h6, .ref h7, .ref h2, .int 0, .int 0, .int 0, .int 0, .int 0]))]) (va_A [(h0, .inr (11, [.ref h1, .ref h2, .ref h3, .ref h4, .ref h5, .int 0, .int 0])), (h3, .inr (2, [.ref h6, .ref h7, .ref h2, .int 0, .int 0, .int 0, .int 0, .int 0]))] sz)) 0 0 (va_A [(h0, .inr (11, [.ref h1, .ref h2, .ref h3, .ref h4, .ref h5, .int 0, .int 0])), (h3, .inr (2, [.ref h6, .ref h7, .ref h2, .int 0, .int 0, .int 0, .int 0, .int 0]))] sz) := by
  refine Met.ofW (cc := cX11_event) (maxL := 3) (ret := (some .int)) (by decide) rfl ?_
  intro p e s m args below meth c s₁ B hml hv
  obtain ⟨rfl, hsz, hP, hK, hD0⟩ := hv
  have hx := B.exec
  have hb := B.bytes
  have hr := B.returns
  have hts0 := atoms_spec (ws := Cond.code yX11_event cX11_event 3 (some .int) :: lw_G) B.pre
  have hG : ∀ w ∈ lw_G, w.before _ s = true := fun w h => hts0 w (List.mem_cons_of_mem _ h)
  have hown : s.vm.findClass RX11 = some m.cls := findClass_of_methodNamed B.named
  have hlocks := B.notSynchronized
  subst hsz
  have hD := hD0.self (sz := s.heap.size)
  generalize hAe : va_A [(h0, .inr (11, [.ref h1, .ref h2, .ref h3, .ref h4, .ref h5, .int 0, .int 0])), (h3, .inr (2, [.ref h6, .ref h7, .ref h2, .int 0, .int 0, .int 0, .int 0, .int 0]))] s.heap.size = A at hD ⊢
  have hA : ∀ q : Nat, s.heap.size ≤ q → A q := fun q h => by rw [← hAe]; exact Or.inr h
  have hS : va_S A s.heap s.heap [] := va_S.rf
  have hP : va_P (dC, dI) vwCl [(h0, .inr (11, [.ref h1, .ref h2, .ref h3, .ref h4, .ref h5, .int 0, .int 0])), (h3, .inr (2, [.ref h6, .ref h7, .ref h2, .int 0, .int 0, .int 0, .int 0, .int 0]))] s.heap := hP
  have hl := lv_entry ([.ref h0, .int x0, .int x1]) (n := 3) (Nat.le_of_ble_eq_true rfl)
  rw [lg_entry_eq]
  generalize (lg_sl ([.ref h0, .int x0, .int x1]) ++ List.replicate (3 - (lg_sl ([.ref h0, .int x0, .int x1])).length) Slot.unset).toArray = ls at hl ⊢
  have hl : lv_has ls 3 [(0, .ref h0), (1, .int x0), (2, .int x1)] := hl
  refine lv_aload_n hx hb dX11_event_0 rfl (lv_at hl 0 rfl) ?_
  refine va_get (D := (dC, dI)) (ci := 11) (v := .ref h3) (C := RX11) (T := TX11) (N := 7) hx hb hG inGX11 hown hK hP 0 rfl rfl 2 (by decide) (hG _ wd_397) (fun _ h9 => h9) rfl dX11_event_1 ?_
  refine lv_iload_n hx hb dX11_event_4 rfl (lv_at hl 1 rfl) ?_
  refine lv_iload_n hx hb dX11_event_5 rfl (lv_at hl 2 rfl) ?_
  have hPc := hP.sub (ws' := [(h3, .inr (2, [.ref h6, .ref h7, .ref h2, .int 0, .int 0, .int 0, .int 0, .int 0]))]) [1] rfl
  have hDc := hD.sub (ws' := [(h3, .inr (2, [.ref h6, .ref h7, .ref h2, .int 0, .int 0, .int 0, .int 0, .int 0]))]) [1] (by decide) rfl
  have hKc := hK.sub (tys' := []) [] rfl
  have hFc := va_free (wc := [(h3, .inr (2, [.ref h6, .ref h7, .ref h2, .int 0, .int 0, .int 0, .int 0, .int 0]))]) hD hS hA [1] rfl
  refine va_calli (va_runV (As := [.int x0, .int x1]) (rest := []) ⟨hx, hb, hml, hown, hG⟩ (cX2_expect_2 l dC dI h3 h6 h7 h2 s.heap.size x0 x1 ix0 ix1) (cwV 2 hG (gV wd_834 wd_835 wd_836 wd_6 wd_837) rfl rfl rfl (by decide +kernel) ⟨Nat.le_of_ble_eq_true rfl, Nat.le_of_ble_eq_true rfl⟩) ⟨fun a U g mk q => by obtain ⟨q0, q1, qP, qK, qD⟩ := q; exact ⟨q0, q1, qP, va_K.moved (u := U) (U := U.calling g mk a) (Vm.Alike.refl U.vm) qK, qD⟩, va_recv hKc hPc (ci := 2) (q0 := 0) rfl rfl, fun U hU hW => ⟨rfl, by rw [hU], by rw [hU]; exact hPc, va_K.moved hW.alike hKc, hDc.weaken (fun _ _ _ _ => trivial)⟩⟩ rfl rfl hl.1 rfl (lv_room (Nat.le_of_ble_eq_true rfl)) dX11_event_6 ⟨by decide, by decide⟩) hS (fun q _ h => hFc q h) hFc (fun r1 u2 t H1 locs ht hvm hw hB hz1 hk1 hS => ?_)
  have hw : r1 = (-1) ∧ True := hw
  obtain ⟨er1, -⟩ := hw
  obtain ⟨hP1, hK1, hD1⟩ := hB
  rw [ht] at hP1
  have hK1 := va_K.moved hvm.symm hK1
  obtain ⟨hP, hD⟩ := va_join (wr := [(h0, .inr (11, [.ref h1, .ref h2, .ref h3, .ref h4, .ref h5, .int 0, .int 0]))]) (w1 := [(h3, .inr (2, [.ref h6, .ref h7, .ref h2, .int 0, .int 0, .int 0, .int 0, .int 0]))]) hP hD [1] [0] rfl rfl (by decide) (by decide) hk1 hFc hP1 hD1
  have hK := (hK.sub (tys' := []) [] rfl).app hK1
  generalize H1 = H at hP hS ⊢
  have hP : va_P (dC, dI) vwCl [(h0, .inr (11, [.ref h1, .ref h2, .ref h3, .ref h4, .ref h5, .int 0, .int 0])), (h3, .inr (2, [.ref h6, .ref h7, .ref h2, .int 0, .int 0, .int 0, .int 0, .int 0]))] H := hP
  have hD : va_D A [(h0, .inr (11, [.ref h1, .ref h2, .ref h3, .ref h4, .ref h5, .int 0, .int 0])), (h3, .inr (2, [.ref h6, .ref h7, .ref h2, .int 0, .int 0, .int 0, .int 0, .int 0]))] := hD
  have hK : va_K (dC, dI) vwCl [] s := hK
  subst er1
  have hP9 := hP.sub (ws' := [(h0, .inr (11, [.ref h1, .ref h2, .ref h3, .ref h4, .ref h5, .int 0, .int 0])), (h3, .inr (2, [.ref h6, .ref h7, .ref h2, .int 0, .int 0, .int 0, .int 0, .int 0]))]) [0, 1] rfl
  have hD9 := hD.sub (ws' := [(h0, .inr (11, [.ref h1, .ref h2, .ref h3, .ref h4, .ref h5, .int 0, .int 0])), (h3, .inr (2, [.ref h6, .ref h7, .ref h2, .int 0, .int 0, .int 0, .int 0, .int 0]))]) [0, 1] (by decide) rfl
  have hK9 := hK.sub (tys' := []) [] rfl
  exact W.iret (v := (-1)) hx hb hr (fun t ht hW => ⟨⟨(-1), (), rfl, ⟨rfl, trivial⟩, by rw [ht]; exact hP9, va_K.moved hW.alike hK9, hD9⟩, hS.F ht⟩) hS.2.2 dX11_event_9
set_option maxHeartbeats 4000000 in
set_option maxRecDepth 100000 in
theorem cX2_expect_3 (l : Launch) (dC : Nat → ClassId) (dI : Nat → Nat → Nat) (h0 h1 h2 h3 : Nat) (sz : Nat) (x0 x1 : Int32) (ix0 : iv x0 (-2147483648) (-1)) (ix1 : iv x1 0 255) : Met l yX2_expect (Cond.code yX2_expect cX2_expect 3 (some .int) :: lw_G) ({ frames := 0, cells := 0, slots := 0, locals := 0 }) (va_Pc [.ref h0, .int x0, .int x1] (fun U => U.heap.size = sz ∧ va_P (dC, dI) vwCl [(h0, .inr (2, [.ref h1, .ref h2, .ref h3, .int 0, .int 0, .int 0, .int 0, .int 0]))] U.heap ∧ va_K (dC, dI) vwCl [] U ∧ va_D (fun _ => True) [(h0, .inr (2, [.ref h1, .ref h2, .ref h3, .int 0, .int 0, .int 0, .int 0, .int 0]))])) (va_Qi (fun (r : Int32) (u : Unit) => r = (-1) ∧ True) (fun (u : Unit) (t : State) => va_P (dC, dI) vwCl [(h0, .inr (2, [.ref h1, .ref h2, .ref h3, .int 0, .int 0, .int 0, .int 0, .int 0]))] t.heap ∧ va_K (dC, dI) vwCl [] t ∧ va_D (va_A [(h0, .inr (2, [.ref h1, .ref h2, .ref h3, .int 0, .int 0, .int 0, .int 0, .int 0]))] sz) [(h0, .inr (2, [.ref h1, .ref h2, .ref h3, .int 0, .int 0, .int 0, .int 0, .int 0]))]) (va_A [(h0, .inr (2, [.ref h1, .ref h2, .ref h3, .int 0, .int 0, .int 0, .int 0, .int 0]))] sz)) 0 0 (va_A [(h0, .inr (2, [.ref h1, .ref h2, .ref h3, .int 0, .int 0, .int 0, .int 0, .int 0]))] sz) := by
  refine Met.ofW (cc := cX2_expect) (maxL := 3) (ret := (some .int)) (by decide) rfl ?_
  intro p e s m args below meth c s₁ B hml hv
  obtain ⟨rfl, hsz, hP, hK, hD0⟩ := hv
  have hx := B.exec
  have hb := B.bytes
  have hr := B.returns
  have hts0 := atoms_spec (ws := Cond.code yX2_expect cX2_expect 3 (some .int) :: lw_G) B.pre
  have hG : ∀ w ∈ lw_G, w.before _ s = true := fun w h => hts0 w (List.mem_cons_of_mem _ h)
  have hown : s.vm.findClass RX2 = some m.cls := findClass_of_methodNamed B.named
  have hlocks := B.notSynchronized
  subst hsz
  have hD := hD0.self (sz := s.heap.size)
  generalize hAe : va_A [(h0, .inr (2, [.ref h1, .ref h2, .ref h3, .int 0, .int 0, .int 0, .int 0, .int 0]))] s.heap.size = A at hD ⊢
  have hA : ∀ q : Nat, s.heap.size ≤ q → A q := fun q h => by rw [← hAe]; exact Or.inr h
  have hS : va_S A s.heap s.heap [] := va_S.rf
  have hP : va_P (dC, dI) vwCl [(h0, .inr (2, [.ref h1, .ref h2, .ref h3, .int 0, .int 0, .int 0, .int 0, .int 0]))] s.heap := hP
  have hl := lv_entry ([.ref h0, .int x0, .int x1]) (n := 3) (Nat.le_of_ble_eq_true rfl)
  rw [lg_entry_eq]
  generalize (lg_sl ([.ref h0, .int x0, .int x1]) ++ List.replicate (3 - (lg_sl ([.ref h0, .int x0, .int x1])).length) Slot.unset).toArray = ls at hl ⊢
  have hl : lv_has ls 3 [(0, .ref h0), (1, .int x0), (2, .int x1)] := hl
  refine lv_iload_n hx hb dX2_expect_0 rfl (lv_at hl 1 rfl) ?_
  refine lv_aload_n hx hb dX2_expect_1 rfl (lv_at hl 0 rfl) ?_
  refine va_get (D := (dC, dI)) (ci := 2) (v := .int 0) (C := RX2) (T := TX2) (N := 8) hx hb hG inGX2 hown hK hP 0 rfl rfl 3 (by decide) (hG _ wd_152) (fun _ h9 => h9) rfl dX2_expect_2 ?_
  refine lv_icmp_lt (tgt := 30) hx hb dX2_expect_5 (by decide) (fun _ => ?_) (fun c => absurd (iv_lt ix0 (by decide : iv 0 0 0) (by decide)) c)
  refine lv_iconst (v := (-1)) hx hb dX2_expect_30 (by decide) ?_
  have hP9 := hP.sub (ws' := [(h0, .inr (2, [.ref h1, .ref h2, .ref h3, .int 0, .int 0, .int 0, .int 0, .int 0]))]) [0] rfl
  have hD9 := hD.sub (ws' := [(h0, .inr (2, [.ref h1, .ref h2, .ref h3, .int 0, .int 0, .int 0, .int 0, .int 0]))]) [0] (by decide) rfl
  have hK9 := hK.sub (tys' := []) [] rfl
  exact W.iret (v := (-1)) hx hb hr (fun t ht hW => ⟨⟨(-1), (), rfl, ⟨rfl, trivial⟩, by rw [ht]; exact hP9, va_K.moved hW.alike hK9, hD9⟩, hS.F ht⟩) hS.2.2 dX2_expect_31
set_option maxHeartbeats 4000000 in
set_option maxRecDepth 100000 in
theorem cX11_event_3 (l : Launch) (dC : Nat → ClassId) (dI : Nat → Nat → Nat) (h0 h1 h2 h3 h4 h5 h6 h7 : Nat) (sz : Nat) (x0 x1 : Int32) (ix0 : iv x0 (-2147483648) (-1)) (ix1 : iv x1 0 255) : Met l yX11_event (Cond.code yX11_event cX11_event 3 (some .int) :: lw_G) ({ frames := 1, cells := 0, slots := 0, locals := 22 }) (va_Pc [.ref h0, .int x0, .int x1] (fun U => U.heap.size = sz ∧ va_P (dC, dI) vwCl [(h0, .inr (11, [.ref h1, .ref h2, .ref h3, .ref h4, .ref h5, .int 0, .int 0])), (h3, .inr (2, [.ref h6, .ref h7, .ref h2, .int 0, .int 0, .int 0, .int 0, .int 0]))] U.heap ∧ va_K (dC, dI) vwCl [] U ∧ va_D (fun _ => True) [(h0, .inr (11, [.ref h1, .ref h2, .ref h3, .ref h4, .ref h5, .int 0, .int 0])), (h3, .inr (2, [.ref h6, .ref h7, .ref h2, .int 0, .int 0, .int 0, .int 0, .int 0]))])) (va_Qi (fun (r : Int32) (u : Unit) => r = (-1) ∧ True) (fun (u : Unit) (t : State) => va_P (dC, dI) vwCl [(h0, .inr (11, [.ref h1, .ref h2, .ref h3, .ref h4, .ref h5, .int 0, .int 0])), (h3, .inr (2, [.ref h6, .ref h7, .ref h2, .int 0, .int 0, .int 0, .int 0, .int 0]))] t.heap ∧ va_K (dC, dI) vwCl [] t ∧ va_D (va_A [(h0, .inr (11, [.ref h1, .ref h2, .ref h3, .ref h4, .ref h5, .int 0, .int 0])), (h3, .inr (2, [.ref h6, .ref h7, .ref h2, .int 0, .int 0, .int 0, .int 0, .int 0]))] sz) [(h0, .inr (11, [.ref h1, .ref h2, .ref h3, .ref h4, .ref h5, .int 0, .int 0])), (h3, .inr (2, [.ref h6, .ref h7, .ref h2, .int 0, .int 0, .int 0, .int 0, .int 0]))]) (va_A [(h0, .inr (11, [.ref h1, .ref h2, .ref h3, .ref h4, .ref h5, .int 0, .int 0])), (h3, .inr (2, [.ref h6, .ref h7, .ref h2, .int 0, .int 0, .int 0, .int 0, .int 0]))] sz)) 0 0 (va_A [(h0, .inr (11, [.ref h1, .ref h2, .ref h3, .ref h4, .ref h5, .int 0, .int 0])), (h3, .inr (2, [.ref h6, .ref h7, .ref h2, .int 0, .int 0, .int 0, .int 0, .int 0]))] sz) := by
  refine Met.ofW (cc := cX11_event) (maxL := 3) (ret := (some .int)) (by decide) rfl ?_
  intro p e s m args below meth c s₁ B hml hv
  obtain ⟨rfl, hsz, hP, hK, hD0⟩ := hv
  have hx := B.exec
  have hb := B.bytes
  have hr := B.returns
  have hts0 := atoms_spec (ws := Cond.code yX11_event cX11_event 3 (some .int) :: lw_G) B.pre
  have hG : ∀ w ∈ lw_G, w.before _ s = true := fun w h => hts0 w (List.mem_cons_of_mem _ h)
  have hown : s.vm.findClass RX11 = some m.cls := findClass_of_methodNamed B.named
  have hlocks := B.notSynchronized
  subst hsz
  have hD := hD0.self (sz := s.heap.size)
  generalize hAe : va_A [(h0, .inr (11, [.ref h1, .ref h2, .ref h3, .ref h4, .ref h5, .int 0, .int 0])), (h3, .inr (2, [.ref h6, .ref h7, .ref h2, .int 0, .int 0, .int 0, .int 0, .int 0]))] s.heap.size = A at hD ⊢
  have hA : ∀ q : Nat, s.heap.size ≤ q → A q := fun q h => by rw [← hAe]; exact Or.inr h
  have hS : va_S A s.heap s.heap [] := va_S.rf
  have hP : va_P (dC, dI) vwCl [(h0, .inr (11, [.ref h1, .ref h2, .ref h3, .ref h4, .ref h5, .int 0, .int 0])), (h3, .inr (2, [.ref h6, .ref h7, .ref h2, .int 0, .int 0, .int 0, .int 0, .int 0]))] s.heap := hP
  have hl := lv_entry ([.ref h0, .int x0, .int x1]) (n := 3) (Nat.le_of_ble_eq_true rfl)
  rw [lg_entry_eq]
  generalize (lg_sl ([.ref h0, .int x0, .int x1]) ++ List.replicate (3 - (lg_sl ([.ref h0, .int x0, .int x1])).length) Slot.unset).toArray = ls at hl ⊢
  have hl : lv_has ls 3 [(0, .ref h0), (1, .int x0), (2, .int x1)] := hl
  refine lv_aload_n hx hb dX11_event_0 rfl (lv_at hl 0 rfl) ?_
  refine va_get (D := (dC, dI)) (ci := 11) (v := .ref h3) (C := RX11) (T := TX11) (N := 7) hx hb hG inGX11 hown hK hP 0 rfl rfl 2 (by decide) (hG _ wd_397) (fun _ h9 => h9) rfl dX11_event_1 ?_
  refine lv_iload_n hx hb dX11_event_4 rfl (lv_at hl 1 rfl) ?_
  refine lv_iload_n hx hb dX11_event_5 rfl (lv_at hl 2 rfl) ?_
  have hPc := hP.sub (ws' := [(h3, .inr (2, [.ref h6, .ref h7, .ref h2, .int 0, .int 0, .int 0, .int 0, .int 0]))]) [1] rfl
  have hDc := hD.sub (ws' := [(h3, .inr (2, [.ref h6, .ref h7, .ref h2, .int 0, .int 0, .int 0, .int 0, .int 0]))]) [1] (by decide) rfl
  have hKc := hK.sub (tys' := []) [] rfl
  have hFc := va_free (wc := [(h3, .inr (2, [.ref h6, .ref h7, .ref h2, .int 0, .int 0, .int 0, .int 0, .int 0]))]) hD hS hA [1] rfl
  refine va_calli (va_runV (As := [.int x0, .int x1]) (rest := []) ⟨hx, hb, hml, hown, hG⟩ (cX2_expect_3 l dC dI h3 h6 h7 h2 s.heap.size x0 x1 ix0 ix1) (cwV 2 hG (gV wd_834 wd_835 wd_836 wd_6 wd_837) rfl rfl rfl (by decide +kernel) ⟨Nat.le_of_ble_eq_true rfl, Nat.le_of_ble_eq_true rfl⟩) ⟨fun a U g mk q => by obtain ⟨q0, q1, qP, qK, qD⟩ := q; exact ⟨q0, q1, qP, va_K.moved (u := U) (U := U.calling g mk a) (Vm.Alike.refl U.vm) qK, qD⟩, va_recv hKc hPc (ci := 2) (q0 := 0) rfl rfl, fun U hU hW => ⟨rfl, by rw [hU], by rw [hU]; exact hPc, va_K.moved hW.alike hKc, hDc.weaken (fun _ _ _ _ => trivial)⟩⟩ rfl rfl hl.1 rfl (lv_room (Nat.le_of_ble_eq_true rfl)) dX11_event_6 ⟨by decide, by decide⟩) hS (fun q _ h => hFc q h) hFc (fun r1 u2 t H1 locs ht hvm hw hB hz1 hk1 hS => ?_)
  have hw : r1 = (-1) ∧ True := hw
  obtain ⟨er1, -⟩ := hw
  obtain ⟨hP1, hK1, hD1⟩ := hB
  rw [ht] at hP1
  have hK1 := va_K.moved hvm.symm hK1
  obtain ⟨hP, hD⟩ := va_join (wr := [(h0, .inr (11, [.ref h1, .ref h2, .ref h3, .ref h4, .ref h5, .int 0, .int 0]))]) (w1 := [(h3, .inr (2, [.ref h6, .ref h7, .ref h2, .int 0, .int 0, .int 0, .int 0, .int 0]))]) hP hD [1] [0] rfl rfl (by decide) (by decide) hk1 hFc hP1 hD1
  have hK := (hK.sub (tys' := []) [] rfl).app hK1
  generalize H1 = H at hP hS ⊢
  have hP : va_P (dC, dI) vwCl [(h0, .inr (11, [.ref h1, .ref h2, .ref h3, .ref h4, .ref h5, .int 0, .int 0])), (h3, .inr (2, [.ref h6, .ref h7, .ref h2, .int 0, .int 0, .int 0, .int 0, .int 0]))] H := hP
  have hD : va_D A [(h0, .inr (11, [.ref h1, .ref h2, .ref h3, .ref h4, .ref h5, .int 0, .int 0])), (h3, .inr (2, [.ref h6, .ref h7, .ref h2, .int 0, .int 0, .int 0, .int 0, .int 0]))] := hD
  have hK : va_K (dC, dI) vwCl [] s := hK
  subst er1
  have hP9 := hP.sub (ws' := [(h0, .inr (11, [.ref h1, .ref h2, .ref h3, .ref h4, .ref h5, .int 0, .int 0])), (h3, .inr (2, [.ref h6, .ref h7, .ref h2, .int 0, .int 0, .int 0, .int 0, .int 0]))]) [0, 1] rfl
  have hD9 := hD.sub (ws' := [(h0, .inr (11, [.ref h1, .ref h2, .ref h3, .ref h4, .ref h5, .int 0, .int 0])), (h3, .inr (2, [.ref h6, .ref h7, .ref h2, .int 0, .int 0, .int 0, .int 0, .int 0]))]) [0, 1] (by decide) rfl
  have hK9 := hK.sub (tys' := []) [] rfl
  exact W.iret (v := (-1)) hx hb hr (fun t ht hW => ⟨⟨(-1), (), rfl, ⟨rfl, trivial⟩, by rw [ht]; exact hP9, va_K.moved hW.alike hK9, hD9⟩, hS.F ht⟩) hS.2.2 dX11_event_9
set_option maxHeartbeats 4000000 in
set_option maxRecDepth 100000 in
theorem cX2_expect_4 (l : Launch) (dC : Nat → ClassId) (dI : Nat → Nat → Nat) (h0 h1 h2 h3 : Nat) (sz : Nat) (x0 x1 : Int32) (ix0 : iv x0 0 2147483647) (ix1 : iv x1 (-2147483648) (-1)) : Met l yX2_expect (Cond.code yX2_expect cX2_expect 3 (some .int) :: lw_G) ({ frames := 0, cells := 0, slots := 0, locals := 0 }) (va_Pc [.ref h0, .int x0, .int x1] (fun U => U.heap.size = sz ∧ va_P (dC, dI) vwCl [(h0, .inr (2, [.ref h1, .ref h2, .ref h3, .int 0, .int 0, .int 0, .int 0, .int 0]))] U.heap ∧ va_K (dC, dI) vwCl [] U ∧ va_D (fun _ => True) [(h0, .inr (2, [.ref h1, .ref h2, .ref h3, .int 0, .int 0, .int 0, .int 0, .int 0]))])) (va_Qi (fun (r : Int32) (u : Unit) => r = (-1) ∧ True) (fun (u : Unit) (t : State) => va_P (dC, dI) vwCl [(h0, .inr (2, [.ref h1, .ref h2, .ref h3, .int 0, .int 0, .int 0, .int 0, .int 0]))] t.heap ∧ va_K (dC, dI) vwCl [] t ∧ va_D (va_A [(h0, .inr (2, [.ref h1, .ref h2, .ref h3, .int 0, .int 0, .int 0, .int 0, .int 0]))] sz) [(h0, .inr (2, [.ref h1, .ref h2, .ref h3, .int 0, .int 0, .int 0, .int 0, .int 0]))]) (va_A [(h0, .inr (2, [.ref h1, .ref h2, .ref h3, .int 0, .int 0, .int 0, .int 0, .int 0]))] sz)) 0 0 (va_A [(h0, .inr (2, [.ref h1, .ref h2, .ref h3, .int 0, .int 0, .int 0, .int 0, .int 0]))] sz) := by
  refine Met.ofW (cc := cX2_expect) (maxL := 3) (ret := (some .int)) (by decide) rfl ?_
  intro p e s m args below meth c s₁ B hml hv
  obtain ⟨rfl, hsz, hP, hK, hD0⟩ := hv
  have hx := B.exec
  have hb := B.bytes
  have hr := B.returns
  have hts0 := atoms_spec (ws := Cond.code yX2_expect cX2_expect 3 (some .int) :: lw_G) B.pre
  have hG : ∀ w ∈ lw_G, w.before _ s = true := fun w h => hts0 w (List.mem_cons_of_mem _ h)
  have hown : s.vm.findClass RX2 = some m.cls := findClass_of_methodNamed B.named
  have hlocks := B.notSynchronized
  subst hsz
  have hD := hD0.self (sz := s.heap.size)
  generalize hAe : va_A [(h0, .inr (2, [.ref h1, .ref h2, .ref h3, .int 0, .int 0, .int 0, .int 0, .int 0]))] s.heap.size = A at hD ⊢
  have hA : ∀ q : Nat, s.heap.size ≤ q → A q := fun q h => by rw [← hAe]; exact Or.inr h
  have hS : va_S A s.heap s.heap [] := va_S.rf
  have hP : va_P (dC, dI) vwCl [(h0, .inr (2, [.ref h1, .ref h2, .ref h3, .int 0, .int 0, .int 0, .int 0, .int 0]))] s.heap := hP
  have hl := lv_entry ([.ref h0, .int x0, .int x1]) (n := 3) (Nat.le_of_ble_eq_true rfl)
  rw [lg_entry_eq]
  generalize (lg_sl ([.ref h0, .int x0, .int x1]) ++ List.replicate (3 - (lg_sl ([.ref h0, .int x0, .int x1])).length) Slot.unset).toArray = ls at hl ⊢
  have hl : lv_has ls 3 [(0, .ref h0), (1, .int x0), (2, .int x1)] := hl
  refine lv_iload_n hx hb dX2_expect_0 rfl (lv_at hl 1 rfl) ?_
  refine lv_aload_n hx hb dX2_expect_1 rfl (lv_at hl 0 rfl) ?_
  refine va_get (D := (dC, dI)) (ci := 2) (v := .int 0) (C := RX2) (T := TX2) (N := 8) hx hb hG inGX2 hown hK hP 0 rfl rfl 3 (by decide) (hG _ wd_152) (fun _ h9 => h9) rfl dX2_expect_2 ?_
  refine lv_icmp_lt (tgt := 30) hx hb dX2_expect_5 (by decide) (fun c => absurd c (iv_nlt ix0 (by decide : iv 0 0 0) (by decide))) (fun _ => ?_)
  refine lv_iload_n hx hb dX2_expect_8 rfl (lv_at hl 2 rfl) ?_
  refine lv_if_lt (tgt := 30) hx hb dX2_expect_9 (by decide) (fun _ => ?_) (fun c => absurd (iv_lt ix1 (by decide : iv 0 0 0) (by decide)) c)
  refine lv_iconst (v := (-1)) hx hb dX2_expect_30 (by decide) ?_
  have hP9 := hP.sub (ws' := [(h0, .inr (2, [.ref h1, .ref h2, .ref h3, .int 0, .int 0, .int 0, .int 0, .int 0]))]) [0] rfl
  have hD9 := hD.sub (ws' := [(h0, .inr (2, [.ref h1, .ref h2, .ref h3, .int 0, .int 0, .int 0, .int 0, .int 0]))]) [0] (by decide) rfl
  have hK9 := hK.sub (tys' := []) [] rfl
  exact W.iret (v := (-1)) hx hb hr (fun t ht hW => ⟨⟨(-1), (), rfl, ⟨rfl, trivial⟩, by rw [ht]; exact hP9, va_K.moved hW.alike hK9, hD9⟩, hS.F ht⟩) hS.2.2 dX2_expect_31
set_option maxHeartbeats 4000000 in
set_option maxRecDepth 100000 in
theorem cX11_event_4 (l : Launch) (dC : Nat → ClassId) (dI : Nat → Nat → Nat) (h0 h1 h2 h3 h4 h5 h6 h7 : Nat) (sz : Nat) (x0 x1 : Int32) (ix0 : iv x0 0 2147483647) (ix1 : iv x1 (-2147483648) (-1)) : Met l yX11_event (Cond.code yX11_event cX11_event 3 (some .int) :: lw_G) ({ frames := 1, cells := 0, slots := 0, locals := 22 }) (va_Pc [.ref h0, .int x0, .int x1] (fun U => U.heap.size = sz ∧ va_P (dC, dI) vwCl [(h0, .inr (11, [.ref h1, .ref h2, .ref h3, .ref h4, .ref h5, .int 0, .int 0])), (h3, .inr (2, [.ref h6, .ref h7, .ref h2, .int 0, .int 0, .int 0, .int 0, .int 0]))] U.heap ∧ va_K (dC, dI) vwCl [] U ∧ va_D (fun _ => True) [(h0, .inr (11, [.ref h1, .ref h2, .ref h3, .ref h4, .ref h5, .int 0, .int 0])), (h3, .inr (2, [.ref h6, .ref h7, .ref h2, .int 0, .int 0, .int 0, .int 0, .int 0]))])) (va_Qi (fun (r : Int32) (u : Unit) => r = (-1) ∧ True) (fun (u : Unit) (t : State) => va_P (dC, dI) vwCl [(h0, .inr (11, [.ref h1, .ref h2, .ref h3, .ref h4, .ref h5, .int 0, .int 0])), (h3, .inr (2, [.ref h6, .ref h7, .ref h2, .int 0, .int 0, .int 0, .int 0, .int 0]))] t.heap ∧ va_K (dC, dI) vwCl [] t ∧ va_D (va_A [(h0, .inr (11, [.ref h1, .ref h2, .ref h3, .ref h4, .ref h5, .int 0, .int 0])), (h3, .inr (2, [.ref h6, .ref h7, .ref h2, .int 0, .int 0, .int 0, .int 0, .int 0]))] sz) [(h0, .inr (11, [.ref h1, .ref h2, .ref h3, .ref h4, .ref h5, .int 0, .int 0])), (h3, .inr (2, [.ref h6, .ref h7, .ref h2, .int 0, .int 0, .int 0, .int 0, .int 0]))]) (va_A [(h0, .inr (11, [.ref h1, .ref h2, .ref h3, .ref h4, .ref h5, .int 0, .int 0])), (h3, .inr (2, [.ref h6, .ref h7, .ref h2, .int 0, .int 0, .int 0, .int 0, .int 0]))] sz)) 0 0 (va_A [(h0, .inr (11, [.ref h1, .ref h2, .ref h3, .ref h4, .ref h5, .int 0, .int 0])), (h3, .inr (2, [.ref h6, .ref h7, .ref h2, .int 0, .int 0, .int 0, .int 0, .int 0]))] sz) := by
  refine Met.ofW (cc := cX11_event) (maxL := 3) (ret := (some .int)) (by decide) rfl ?_
  intro p e s m args below meth c s₁ B hml hv
  obtain ⟨rfl, hsz, hP, hK, hD0⟩ := hv
  have hx := B.exec
  have hb := B.bytes
  have hr := B.returns
  have hts0 := atoms_spec (ws := Cond.code yX11_event cX11_event 3 (some .int) :: lw_G) B.pre
  have hG : ∀ w ∈ lw_G, w.before _ s = true := fun w h => hts0 w (List.mem_cons_of_mem _ h)
  have hown : s.vm.findClass RX11 = some m.cls := findClass_of_methodNamed B.named
  have hlocks := B.notSynchronized
  subst hsz
  have hD := hD0.self (sz := s.heap.size)
  generalize hAe : va_A [(h0, .inr (11, [.ref h1, .ref h2, .ref h3, .ref h4, .ref h5, .int 0, .int 0])), (h3, .inr (2, [.ref h6, .ref h7, .ref h2, .int 0, .int 0, .int 0, .int 0, .int 0]))] s.heap.size = A at hD ⊢
  have hA : ∀ q : Nat, s.heap.size ≤ q → A q := fun q h => by rw [← hAe]; exact Or.inr h
  have hS : va_S A s.heap s.heap [] := va_S.rf
  have hP : va_P (dC, dI) vwCl [(h0, .inr (11, [.ref h1, .ref h2, .ref h3, .ref h4, .ref h5, .int 0, .int 0])), (h3, .inr (2, [.ref h6, .ref h7, .ref h2, .int 0, .int 0, .int 0, .int 0, .int 0]))] s.heap := hP
  have hl := lv_entry ([.ref h0, .int x0, .int x1]) (n := 3) (Nat.le_of_ble_eq_true rfl)
  rw [lg_entry_eq]
  generalize (lg_sl ([.ref h0, .int x0, .int x1]) ++ List.replicate (3 - (lg_sl ([.ref h0, .int x0, .int x1])).length) Slot.unset).toArray = ls at hl ⊢
  have hl : lv_has ls 3 [(0, .ref h0), (1, .int x0), (2, .int x1)] := hl
  refine lv_aload_n hx hb dX11_event_0 rfl (lv_at hl 0 rfl) ?_
  refine va_get (D := (dC, dI)) (ci := 11) (v := .ref h3) (C := RX11) (T := TX11) (N := 7) hx hb hG inGX11 hown hK hP 0 rfl rfl 2 (by decide) (hG _ wd_397) (fun _ h9 => h9) rfl dX11_event_1 ?_
  refine lv_iload_n hx hb dX11_event_4 rfl (lv_at hl 1 rfl) ?_
  refine lv_iload_n hx hb dX11_event_5 rfl (lv_at hl 2 rfl) ?_
  have hPc := hP.sub (ws' := [(h3, .inr (2, [.ref h6, .ref h7, .ref h2, .int 0, .int 0, .int 0, .int 0, .int 0]))]) [1] rfl
  have hDc := hD.sub (ws' := [(h3, .inr (2, [.ref h6, .ref h7, .ref h2, .int 0, .int 0, .int 0, .int 0, .int 0]))]) [1] (by decide) rfl
  have hKc := hK.sub (tys' := []) [] rfl
  have hFc := va_free (wc := [(h3, .inr (2, [.ref h6, .ref h7, .ref h2, .int 0, .int 0, .int 0, .int 0, .int 0]))]) hD hS hA [1] rfl
  refine va_calli (va_runV (As := [.int x0, .int x1]) (rest := []) ⟨hx, hb, hml, hown, hG⟩ (cX2_expect_4 l dC dI h3 h6 h7 h2 s.heap.size x0 x1 ix0 ix1) (cwV 2 hG (gV wd_834 wd_835 wd_836 wd_6 wd_837) rfl rfl rfl (by decide +kernel) ⟨Nat.le_of_ble_eq_true rfl, Nat.le_of_ble_eq_true rfl⟩) ⟨fun a U g mk q => by obtain ⟨q0, q1, qP, qK, qD⟩ := q; exact ⟨q0, q1, qP, va_K.moved (u := U) (U := U.calling g mk a) (Vm.Alike.refl U.vm) qK, qD⟩, va_recv hKc hPc (ci := 2) (q0 := 0) rfl rfl, fun U hU hW => ⟨rfl, by rw [hU], by rw [hU]; exact hPc, va_K.moved hW.alike hKc, hDc.weaken (fun _ _ _ _ => trivial)⟩⟩ rfl rfl hl.1 rfl (lv_room (Nat.le_of_ble_eq_true rfl)) dX11_event_6 ⟨by decide, by decide⟩) hS (fun q _ h => hFc q h) hFc (fun r1 u2 t H1 locs ht hvm hw hB hz1 hk1 hS => ?_)
  have hw : r1 = (-1) ∧ True := hw
  obtain ⟨er1, -⟩ := hw
  obtain ⟨hP1, hK1, hD1⟩ := hB
  rw [ht] at hP1
  have hK1 := va_K.moved hvm.symm hK1
  obtain ⟨hP, hD⟩ := va_join (wr := [(h0, .inr (11, [.ref h1, .ref h2, .ref h3, .ref h4, .ref h5, .int 0, .int 0]))]) (w1 := [(h3, .inr (2, [.ref h6, .ref h7, .ref h2, .int 0, .int 0, .int 0, .int 0, .int 0]))]) hP hD [1] [0] rfl rfl (by decide) (by decide) hk1 hFc hP1 hD1
  have hK := (hK.sub (tys' := []) [] rfl).app hK1
  generalize H1 = H at hP hS ⊢
  have hP : va_P (dC, dI) vwCl [(h0, .inr (11, [.ref h1, .ref h2, .ref h3, .ref h4, .ref h5, .int 0, .int 0])), (h3, .inr (2, [.ref h6, .ref h7, .ref h2, .int 0, .int 0, .int 0, .int 0, .int 0]))] H := hP
  have hD : va_D A [(h0, .inr (11, [.ref h1, .ref h2, .ref h3, .ref h4, .ref h5, .int 0, .int 0])), (h3, .inr (2, [.ref h6, .ref h7, .ref h2, .int 0, .int 0, .int 0, .int 0, .int 0]))] := hD
  have hK : va_K (dC, dI) vwCl [] s := hK
  subst er1
  have hP9 := hP.sub (ws' := [(h0, .inr (11, [.ref h1, .ref h2, .ref h3, .ref h4, .ref h5, .int 0, .int 0])), (h3, .inr (2, [.ref h6, .ref h7, .ref h2, .int 0, .int 0, .int 0, .int 0, .int 0]))]) [0, 1] rfl
  have hD9 := hD.sub (ws' := [(h0, .inr (11, [.ref h1, .ref h2, .ref h3, .ref h4, .ref h5, .int 0, .int 0])), (h3, .inr (2, [.ref h6, .ref h7, .ref h2, .int 0, .int 0, .int 0, .int 0, .int 0]))]) [0, 1] (by decide) rfl
  have hK9 := hK.sub (tys' := []) [] rfl
  exact W.iret (v := (-1)) hx hb hr (fun t ht hW => ⟨⟨(-1), (), rfl, ⟨rfl, trivial⟩, by rw [ht]; exact hP9, va_K.moved hW.alike hK9, hD9⟩, hS.F ht⟩) hS.2.2 dX11_event_9
set_option maxHeartbeats 4000000 in
set_option maxRecDepth 100000 in
theorem cX2_expect_5 (l : Launch) (dC : Nat → ClassId) (dI : Nat → Nat → Nat) (h0 h1 h2 h3 : Nat) (sz : Nat) (x0 x1 : Int32) (ix0 : iv x0 0 2147483647) (ix1 : iv x1 256 2147483647) : Met l yX2_expect (Cond.code yX2_expect cX2_expect 3 (some .int) :: lw_G) ({ frames := 0, cells := 0, slots := 0, locals := 0 }) (va_Pc [.ref h0, .int x0, .int x1] (fun U => U.heap.size = sz ∧ va_P (dC, dI) vwCl [(h0, .inr (2, [.ref h1, .ref h2, .ref h3, .int 0, .int 0, .int 0, .int 0, .int 0]))] U.heap ∧ va_K (dC, dI) vwCl [] U ∧ va_D (fun _ => True) [(h0, .inr (2, [.ref h1, .ref h2, .ref h3, .int 0, .int 0, .int 0, .int 0, .int 0]))])) (va_Qi (fun (r : Int32) (u : Unit) => r = (-1) ∧ True) (fun (u : Unit) (t : State) => va_P (dC, dI) vwCl [(h0, .inr (2, [.ref h1, .ref h2, .ref h3, .int 0, .int 0, .int 0, .int 0, .int 0]))] t.heap ∧ va_K (dC, dI) vwCl [] t ∧ va_D (va_A [(h0, .inr (2, [.ref h1, .ref h2, .ref h3, .int 0, .int 0, .int 0, .int 0, .int 0]))] sz) [(h0, .inr (2, [.ref h1, .ref h2, .ref h3, .int 0, .int 0, .int 0, .int 0, .int 0]))]) (va_A [(h0, .inr (2, [.ref h1, .ref h2, .ref h3, .int 0, .int 0, .int 0, .int 0, .int 0]))] sz)) 0 0 (va_A [(h0, .inr (2, [.ref h1, .ref h2, .ref h3, .int 0, .int 0, .int 0, .int 0, .int 0]))] sz) := by
  refine Met.ofW (cc := cX2_expect) (maxL := 3) (ret := (some .int)) (by decide) rfl ?_
  intro p e s m args below meth c s₁ B hml hv
  obtain ⟨rfl, hsz, hP, hK, hD0⟩ := hv
  have hx := B.exec
  have hb := B.bytes
  have hr := B.returns
  have hts0 := atoms_spec (ws := Cond.code yX2_expect cX2_expect 3 (some .int) :: lw_G) B.pre
  have hG : ∀ w ∈ lw_G, w.before _ s = true := fun w h => hts0 w (List.mem_cons_of_mem _ h)
  have hown : s.vm.findClass RX2 = some m.cls := findClass_of_methodNamed B.named
  have hlocks := B.notSynchronized
  subst hsz
  have hD := hD0.self (sz := s.heap.size)
  generalize hAe : va_A [(h0, .inr (2, [.ref h1, .ref h2, .ref h3, .int 0, .int 0, .int 0, .int 0, .int 0]))] s.heap.size = A at hD ⊢
  have hA : ∀ q : Nat, s.heap.size ≤ q → A q := fun q h => by rw [← hAe]; exact Or.inr h
  have hS : va_S A s.heap s.heap [] := va_S.rf
  have hP : va_P (dC, dI) vwCl [(h0, .inr (2, [.ref h1, .ref h2, .ref h3, .int 0, .int 0, .int 0, .int 0, .int 0]))] s.heap := hP
  have hl := lv_entry ([.ref h0, .int x0, .int x1]) (n := 3) (Nat.le_of_ble_eq_true rfl)
  rw [lg_entry_eq]
  generalize (lg_sl ([.ref h0, .int x0, .int x1]) ++ List.replicate (3 - (lg_sl ([.ref h0, .int x0, .int x1])).length) Slot.unset).toArray = ls at hl ⊢
  have hl : lv_has ls 3 [(0, .ref h0), (1, .int x0), (2, .int x1)] := hl
  refine lv_iload_n hx hb dX2_expect_0 rfl (lv_at hl 1 rfl) ?_
  refine lv_aload_n hx hb dX2_expect_1 rfl (lv_at hl 0 rfl) ?_
  refine va_get (D := (dC, dI)) (ci := 2) (v := .int 0) (C := RX2) (T := TX2) (N := 8) hx hb hG inGX2 hown hK hP 0 rfl rfl 3 (by decide) (hG _ wd_152) (fun _ h9 => h9) rfl dX2_expect_2 ?_
  refine lv_icmp_lt (tgt := 30) hx hb dX2_expect_5 (by decide) (fun c => absurd c (iv_nlt ix0 (by decide : iv 0 0 0) (by decide))) (fun _ => ?_)
  refine lv_iload_n hx hb dX2_expect_8 rfl (lv_at hl 2 rfl) ?_
  refine lv_if_lt (tgt := 30) hx hb dX2_expect_9 (by decide) (fun c => absurd c (iv_nlt ix1 (by decide : iv 0 0 0) (by decide))) (fun _ => ?_)
  refine lv_iload_n hx hb dX2_expect_12 rfl (lv_at hl 2 rfl) ?_
  refine lv_sipush (v := 255) hx hb dX2_expect_13 (by decide) ?_
  refine lv_icmp_gt (tgt := 30) hx hb dX2_expect_16 (by decide) (fun _ => ?_) (fun c => absurd (iv_lt (by decide : iv 255 255 255) ix1 (by decide)) c)
  refine lv_iconst (v := (-1)) hx hb dX2_expect_30 (by decide) ?_
  have hP9 := hP.sub (ws' := [(h0, .inr (2, [.ref h1, .ref h2, .ref h3, .int 0, .int 0, .int 0, .int 0, .int 0]))]) [0] rfl
  have hD9 := hD.sub (ws' := [(h0, .inr (2, [.ref h1, .ref h2, .ref h3, .int 0, .int 0, .int 0, .int 0, .int 0]))]) [0] (by decide) rfl
  have hK9 := hK.sub (tys' := []) [] rfl
  exact W.iret (v := (-1)) hx hb hr (fun t ht hW => ⟨⟨(-1), (), rfl, ⟨rfl, trivial⟩, by rw [ht]; exact hP9, va_K.moved hW.alike hK9, hD9⟩, hS.F ht⟩) hS.2.2 dX2_expect_31
set_option maxHeartbeats 4000000 in
set_option maxRecDepth 100000 in
theorem cX11_event_5 (l : Launch) (dC : Nat → ClassId) (dI : Nat → Nat → Nat) (h0 h1 h2 h3 h4 h5 h6 h7 : Nat) (sz : Nat) (x0 x1 : Int32) (ix0 : iv x0 0 2147483647) (ix1 : iv x1 256 2147483647) : Met l yX11_event (Cond.code yX11_event cX11_event 3 (some .int) :: lw_G) ({ frames := 1, cells := 0, slots := 0, locals := 22 }) (va_Pc [.ref h0, .int x0, .int x1] (fun U => U.heap.size = sz ∧ va_P (dC, dI) vwCl [(h0, .inr (11, [.ref h1, .ref h2, .ref h3, .ref h4, .ref h5, .int 0, .int 0])), (h3, .inr (2, [.ref h6, .ref h7, .ref h2, .int 0, .int 0, .int 0, .int 0, .int 0]))] U.heap ∧ va_K (dC, dI) vwCl [] U ∧ va_D (fun _ => True) [(h0, .inr (11, [.ref h1, .ref h2, .ref h3, .ref h4, .ref h5, .int 0, .int 0])), (h3, .inr (2, [.ref h6, .ref h7, .ref h2, .int 0, .int 0, .int 0, .int 0, .int 0]))])) (va_Qi (fun (r : Int32) (u : Unit) => r = (-1) ∧ True) (fun (u : Unit) (t : State) => va_P (dC, dI) vwCl [(h0, .inr (11, [.ref h1, .ref h2, .ref h3, .ref h4, .ref h5, .int 0, .int 0])), (h3, .inr (2, [.ref h6, .ref h7, .ref h2, .int 0, .int 0, .int 0, .int 0, .int 0]))] t.heap ∧ va_K (dC, dI) vwCl [] t ∧ va_D (va_A [(h0, .inr (11, [.ref h1, .ref h2, .ref h3, .ref h4, .ref h5, .int 0, .int 0])), (h3, .inr (2, [.ref h6, .ref h7, .ref h2, .int 0, .int 0, .int 0, .int 0, .int 0]))] sz) [(h0, .inr (11, [.ref h1, .ref h2, .ref h3, .ref h4, .ref h5, .int 0, .int 0])), (h3, .inr (2, [.ref h6, .ref h7, .ref h2, .int 0, .int 0, .int 0, .int 0, .int 0]))]) (va_A [(h0, .inr (11, [.ref h1, .ref h2, .ref h3, .ref h4, .ref h5, .int 0, .int 0])), (h3, .inr (2, [.ref h6, .ref h7, .ref h2, .int 0, .int 0, .int 0, .int 0, .int 0]))] sz)) 0 0 (va_A [(h0, .inr (11, [.ref h1, .ref h2, .ref h3, .ref h4, .ref h5, .int 0, .int 0])), (h3, .inr (2, [.ref h6, .ref h7, .ref h2, .int 0, .int 0, .int 0, .int 0, .int 0]))] sz) := by
  refine Met.ofW (cc := cX11_event) (maxL := 3) (ret := (some .int)) (by decide) rfl ?_
  intro p e s m args below meth c s₁ B hml hv
  obtain ⟨rfl, hsz, hP, hK, hD0⟩ := hv
  have hx := B.exec
  have hb := B.bytes
  have hr := B.returns
  have hts0 := atoms_spec (ws := Cond.code yX11_event cX11_event 3 (some .int) :: lw_G) B.pre
  have hG : ∀ w ∈ lw_G, w.before _ s = true := fun w h => hts0 w (List.mem_cons_of_mem _ h)
  have hown : s.vm.findClass RX11 = some m.cls := findClass_of_methodNamed B.named
  have hlocks := B.notSynchronized
  subst hsz
  have hD := hD0.self (sz := s.heap.size)
  generalize hAe : va_A [(h0, .inr (11, [.ref h1, .ref h2, .ref h3, .ref h4, .ref h5, .int 0, .int 0])), (h3, .inr (2, [.ref h6, .ref h7, .ref h2, .int 0, .int 0, .int 0, .int 0, .int 0]))] s.heap.size = A at hD ⊢
  have hA : ∀ q : Nat, s.heap.size ≤ q → A q := fun q h => by rw [← hAe]; exact Or.inr h
  have hS : va_S A s.heap s.heap [] := va_S.rf
  have hP : va_P (dC, dI) vwCl [(h0, .inr (11, [.ref h1, .ref h2, .ref h3, .ref h4, .ref h5, .int 0, .int 0])), (h3, .inr (2, [.ref h6, .ref h7, .ref h2, .int 0, .int 0, .int 0, .int 0, .int 0]))] s.heap := hP
  have hl := lv_entry ([.ref h0, .int x0, .int x1]) (n := 3) (Nat.le_of_ble_eq_true rfl)
  rw [lg_entry_eq]
  generalize (lg_sl ([.ref h0, .int x0, .int x1]) ++ List.replicate (3 - (lg_sl ([.ref h0, .int x0, .int x1])).length) Slot.unset).toArray = ls at hl ⊢
  have hl : lv_has ls 3 [(0, .ref h0), (1, .int x0), (2, .int x1)] := hl
  refine lv_aload_n hx hb dX11_event_0 rfl (lv_at hl 0 rfl) ?_
  refine va_get (D := (dC, dI)) (ci := 11) (v := .ref h3) (C := RX11) (T := TX11) (N := 7) hx hb hG inGX11 hown hK hP 0 rfl rfl 2 (by decide) (hG _ wd_397) (fun _ h9 => h9) rfl dX11_event_1 ?_
  refine lv_iload_n hx hb dX11_event_4 rfl (lv_at hl 1 rfl) ?_
  refine lv_iload_n hx hb dX11_event_5 rfl (lv_at hl 2 rfl) ?_
  have hPc := hP.sub (ws' := [(h3, .inr (2, [.ref h6, .ref h7, .ref h2, .int 0, .int 0, .int 0, .int 0, .int 0]))]) [1] rfl
  have hDc := hD.sub (ws' := [(h3, .inr (2, [.ref h6, .ref h7, .ref h2, .int 0, .int 0, .int 0, .int 0, .int 0]))]) [1] (by decide) rfl
  have hKc := hK.sub (tys' := []) [] rfl
  have hFc := va_free (wc := [(h3, .inr (2, [.ref h6, .ref h7, .ref h2, .int 0, .int 0, .int 0, .int 0, .int 0]))]) hD hS hA [1] rfl
  refine va_calli (va_runV (As := [.int x0, .int x1]) (rest := []) ⟨hx, hb, hml, hown, hG⟩ (cX2_expect_5 l dC dI h3 h6 h7 h2 s.heap.size x0 x1 ix0 ix1) (cwV 2 hG (gV wd_834 wd_835 wd_836 wd_6 wd_837) rfl rfl rfl (by decide +kernel) ⟨Nat.le_of_ble_eq_true rfl, Nat.le_of_ble_eq_true rfl⟩) ⟨fun a U g mk q => by obtain ⟨q0, q1, qP, qK, qD⟩ := q; exact ⟨q0, q1, qP, va_K.moved (u := U) (U := U.calling g mk a) (Vm.Alike.refl U.vm) qK, qD⟩, va_recv hKc hPc (ci := 2) (q0 := 0) rfl rfl, fun U hU hW => ⟨rfl, by rw [hU], by rw [hU]; exact hPc, va_K.moved hW.alike hKc, hDc.weaken (fun _ _ _ _ => trivial)⟩⟩ rfl rfl hl.1 rfl (lv_room (Nat.le_of_ble_eq_true rfl)) dX11_event_6 ⟨by decide, by decide⟩) hS (fun q _ h => hFc q h) hFc (fun r1 u2 t H1 locs ht hvm hw hB hz1 hk1 hS => ?_)
  have hw : r1 = (-1) ∧ True := hw
  obtain ⟨er1, -⟩ := hw
  obtain ⟨hP1, hK1, hD1⟩ := hB
  rw [ht] at hP1
  have hK1 := va_K.moved hvm.symm hK1
  obtain ⟨hP, hD⟩ := va_join (wr := [(h0, .inr (11, [.ref h1, .ref h2, .ref h3, .ref h4, .ref h5, .int 0, .int 0]))]) (w1 := [(h3, .inr (2, [.ref h6, .ref h7, .ref h2, .int 0, .int 0, .int 0, .int 0, .int 0]))]) hP hD [1] [0] rfl rfl (by decide) (by decide) hk1 hFc hP1 hD1
  have hK := (hK.sub (tys' := []) [] rfl).app hK1
  generalize H1 = H at hP hS ⊢
  have hP : va_P (dC, dI) vwCl [(h0, .inr (11, [.ref h1, .ref h2, .ref h3, .ref h4, .ref h5, .int 0, .int 0])), (h3, .inr (2, [.ref h6, .ref h7, .ref h2, .int 0, .int 0, .int 0, .int 0, .int 0]))] H := hP
  have hD : va_D A [(h0, .inr (11, [.ref h1, .ref h2, .ref h3, .ref h4, .ref h5, .int 0, .int 0])), (h3, .inr (2, [.ref h6, .ref h7, .ref h2, .int 0, .int 0, .int 0, .int 0, .int 0]))] := hD
  have hK : va_K (dC, dI) vwCl [] s := hK
  subst er1
  have hP9 := hP.sub (ws' := [(h0, .inr (11, [.ref h1, .ref h2, .ref h3, .ref h4, .ref h5, .int 0, .int 0])), (h3, .inr (2, [.ref h6, .ref h7, .ref h2, .int 0, .int 0, .int 0, .int 0, .int 0]))]) [0, 1] rfl
  have hD9 := hD.sub (ws' := [(h0, .inr (11, [.ref h1, .ref h2, .ref h3, .ref h4, .ref h5, .int 0, .int 0])), (h3, .inr (2, [.ref h6, .ref h7, .ref h2, .int 0, .int 0, .int 0, .int 0, .int 0]))]) [0, 1] (by decide) rfl
  have hK9 := hK.sub (tys' := []) [] rfl
  exact W.iret (v := (-1)) hx hb hr (fun t ht hW => ⟨⟨(-1), (), rfl, ⟨rfl, trivial⟩, by rw [ht]; exact hP9, va_K.moved hW.alike hK9, hD9⟩, hS.F ht⟩) hS.2.2 dX11_event_9
set_option maxHeartbeats 4000000 in
set_option maxRecDepth 100000 in
theorem cX3_takes_1 (l : Launch) (dC : Nat → ClassId) (dI : Nat → Nat → Nat) (h0 h1 h2 : Nat) (sz : Nat) (x0 : Int32) (ix0 : iv x0 0 2147483647) : Met l yX3_takes (Cond.code yX3_takes cX3_takes 2 (some .boolean) :: lw_G) ({ frames := 0, cells := 0, slots := 0, locals := 0 }) (va_Pc [.ref h0, .int x0] (fun U => U.heap.size = sz ∧ va_P (dC, dI) vwCl [(h0, .inr (3, [.ref h1, .ref h2, .int 0]))] U.heap ∧ va_K (dC, dI) vwCl [] U ∧ va_D (fun _ => True) [(h0, .inr (3, [.ref h1, .ref h2, .int 0]))])) (va_Qi (fun (r : Int32) (u : Unit) => r = 1 ∧ True) (fun (u : Unit) (t : State) => va_P (dC, dI) vwCl [(h0, .inr (3, [.ref h1, .ref h2, .int 0]))] t.heap ∧ va_K (dC, dI) vwCl [] t ∧ va_D (va_A [(h0, .inr (3, [.ref h1, .ref h2, .int 0]))] sz) [(h0, .inr (3, [.ref h1, .ref h2, .int 0]))]) (va_A [(h0, .inr (3, [.ref h1, .ref h2, .int 0]))] sz)) 0 0 (va_A [(h0, .inr (3, [.ref h1, .ref h2, .int 0]))] sz) := by
  refine Met.ofW (cc := cX3_takes) (maxL := 2) (ret := (some .boolean)) (by decide) rfl ?_
  intro p e s m args below meth c s₁ B hml hv
  obtain ⟨rfl, hsz, hP, hK, hD0⟩ := hv
  have hx := B.exec
  have hb := B.bytes
  have hr := B.returns
  have hts0 := atoms_spec (ws := Cond.code yX3_takes cX3_takes 2 (some .boolean) :: lw_G) B.pre
  have hG : ∀ w ∈ lw_G, w.before _ s = true := fun w h => hts0 w (List.mem_cons_of_mem _ h)
  have hown : s.vm.findClass RX3 = some m.cls := findClass_of_methodNamed B.named
  have hlocks := B.notSynchronized
  subst hsz
  have hD := hD0.self (sz := s.heap.size)
  generalize hAe : va_A [(h0, .inr (3, [.ref h1, .ref h2, .int 0]))] s.heap.size = A at hD ⊢
  have hA : ∀ q : Nat, s.heap.size ≤ q → A q := fun q h => by rw [← hAe]; exact Or.inr h
  have hS : va_S A s.heap s.heap [] := va_S.rf
  have hP : va_P (dC, dI) vwCl [(h0, .inr (3, [.ref h1, .ref h2, .int 0]))] s.heap := hP
  have hl := lv_entry ([.ref h0, .int x0]) (n := 2) (Nat.le_of_ble_eq_true rfl)
  rw [lg_entry_eq]
  generalize (lg_sl ([.ref h0, .int x0]) ++ List.replicate (2 - (lg_sl ([.ref h0, .int x0])).length) Slot.unset).toArray = ls at hl ⊢
  have hl : lv_has ls 2 [(0, .ref h0), (1, .int x0)] := hl
  refine lv_aload_n hx hb dX3_takes_0 rfl (lv_at hl 0 rfl) ?_
  refine va_get (D := (dC, dI)) (ci := 3) (v := .int 0) (C := RX3) (T := TX3) (N := 3) hx hb hG inGX3 hown hK hP 0 rfl rfl 2 (by decide) (hG _ wd_141) (fun _ h9 => h9) rfl dX3_takes_1 ?_
  refine lv_bipush (v := 40) hx hb dX3_takes_4 (by decide) ?_
  refine lv_icmp_ge (tgt := 35) hx hb dX3_takes_6 (by decide) (fun c => absurd c (by decide)) (fun _ => ?_)
  refine lv_aload_n hx hb dX3_takes_9 rfl (lv_at hl 0 rfl) ?_
  refine va_get (D := (dC, dI)) (ci := 3) (v := .int 0) (C := RX3) (T := TX3) (N := 3) hx hb hG inGX3 hown hK hP 0 rfl rfl 2 (by decide) (hG _ wd_141) (fun _ h9 => h9) rfl dX3_takes_10 ?_
  refine lv_if_eq (tgt := 31) hx hb dX3_takes_13 (by decide) (fun _ => ?_) (fun c => absurd (by decide) c)
  refine lv_iconst (v := 1) hx hb dX3_takes_31 (by decide) ?_
  refine lv_goto (tgt := 36) hx hb dX3_takes_32 (by decide) ?_
  have hP9 := hP.sub (ws' := [(h0, .inr (3, [.ref h1, .ref h2, .int 0]))]) [0] rfl
  have hD9 := hD.sub (ws' := [(h0, .inr (3, [.ref h1, .ref h2, .int 0]))]) [0] (by decide) rfl
  have hK9 := hK.sub (tys' := []) [] rfl
  exact W.zret (v := 1) hx hb hr rfl (fun t ht hW => ⟨⟨1, (), rfl, ⟨rfl, trivial⟩, by rw [ht]; exact hP9, va_K.moved hW.alike hK9, hD9⟩, hS.F ht⟩) hS.2.2 dX3_takes_36
set_option maxHeartbeats 4000000 in
set_option maxRecDepth 100000 in
theorem cX3_add_1 (l : Launch) (dC : Nat → ClassId) (dI : Nat → Nat → Nat) (h0 h1 h2 : Nat) (y0 y1 : ClassId) (sz : Nat) (x0 x1 : Int32) (ix0 : iv x0 0 2147483647) (ix1 : iv x1 0 255) : Met l yX3_add (Cond.code yX3_add cX3_add 3 none :: lw_G) ({ frames := 0, cells := 0, slots := 0, locals := 0 }) (va_Pc [.ref h0, .int x0, .int x1] (fun U => U.heap.size = sz ∧ va_P (dC, dI) vwCl [(h0, .inr (3, [.ref h1, .ref h2, .int 0])), (h1, .inl (y0, 40, .inl (fun _ => 0))), (h2, .inl (y1, 40, .inl (fun _ => 0)))] U.heap ∧ va_K (dC, dI) vwCl [(y0, .int), (y1, .int)] U ∧ va_D (fun _ => True) [(h0, .inr (3, [.ref h1, .ref h2, .int 0])), (h1, .inl (y0, 40, .inl (fun _ => 0))), (h2, .inl (y1, 40, .inl (fun _ => 0)))])) (va_Qv (fun (u : (Nat → Int32) × (Nat → Int32)) => (∀ j, iv (u.1 j) 0 2147483647) ∧ (∀ j, iv (u.2 j) 0 255) ∧ True) (fun (u : (Nat → Int32) × (Nat → Int32)) (t : State) => va_P (dC, dI) vwCl [(h0, .inr (3, [.ref h1, .ref h2, .int 1])), (h1, .inl (y0, 40, .inl u.1)), (h2, .inl (y1, 40, .inl u.2))] t.heap ∧ va_K (dC, dI) vwCl [(y0, .int), (y1, .int)] t ∧ va_D (va_A [(h0, .inr (3, [.ref h1, .ref h2, .int 0])), (h1, .inl (y0, 40, .inl (fun _ => 0))), (h2, .inl (y1, 40, .inl (fun _ => 0)))] sz) [(h0, .inr (3, [.ref h1, .ref h2, .int 1])), (h1, .inl (y0, 40, .inl u.1)), (h2, .inl (y1, 40, .inl u.2))]) (va_A [(h0, .inr (3, [.ref h1, .ref h2, .int 0])), (h1, .inl (y0, 40, .inl (fun _ => 0))), (h2, .inl (y1, 40, .inl (fun _ => 0)))] sz)) 0 0 (va_A [(h0, .inr (3, [.ref h1, .ref h2, .int 0])), (h1, .inl (y0, 40, .inl (fun _ => 0))), (h2, .inl (y1, 40, .inl (fun _ => 0)))] sz) := by
  refine Met.ofW (cc := cX3_add) (maxL := 3) (ret := none) (by decide) rfl ?_
  intro p e s m args below meth c s₁ B hml hv
  obtain ⟨rfl, hsz, hP, hK, hD0⟩ := hv
  have hx := B.exec
  have hb := B.bytes
  have hr := B.returns
  have hts0 := atoms_spec (ws := Cond.code yX3_add cX3_add 3 none :: lw_G) B.pre
  have hG : ∀ w ∈ lw_G, w.before _ s = true := fun w h => hts0 w (List.mem_cons_of_mem _ h)
  have hown : s.vm.findClass RX3 = some m.cls := findClass_of_methodNamed B.named
  have hlocks := B.notSynchronized
  subst hsz
  have hD := hD0.self (sz := s.heap.size)
  generalize hAe : va_A [(h0, .inr (3, [.ref h1, .ref h2, .int 0])), (h1, .inl (y0, 40, .inl (fun _ => 0))), (h2, .inl (y1, 40, .inl (fun _ => 0)))] s.heap.size = A at hD ⊢
  have hA : ∀ q : Nat, s.heap.size ≤ q → A q := fun q h => by rw [← hAe]; exact Or.inr h
  have hS : va_S A s.heap s.heap [] := va_S.rf
  have hP : va_P (dC, dI) vwCl [(h0, .inr (3, [.ref h1, .ref h2, .int 0])), (h1, .inl (y0, 40, .inl (fun _ => 0))), (h2, .inl (y1, 40, .inl (fun _ => 0)))] s.heap := hP
  have hl := lv_entry ([.ref h0, .int x0, .int x1]) (n := 3) (Nat.le_of_ble_eq_true rfl)
  rw [lg_entry_eq]
  generalize (lg_sl ([.ref h0, .int x0, .int x1]) ++ List.replicate (3 - (lg_sl ([.ref h0, .int x0, .int x1])).length) Slot.unset).toArray = ls at hl ⊢
  have hl : lv_has ls 3 [(0, .ref h0), (1, .int x0), (2, .int x1)] := hl
  refine lv_aload_n hx hb dX3_add_0 rfl (lv_at hl 0 rfl) ?_
  refine va_get (D := (dC, dI)) (ci := 3) (v := .int 0) (C := RX3) (T := TX3) (N := 3) hx hb hG inGX3 hown hK hP 0 rfl rfl 2 (by decide) (hG _ wd_141) (fun _ h9 => h9) rfl dX3_add_1 ?_
  refine lv_bipush (v := 40) hx hb dX3_add_4 (by decide) ?_
  refine lv_icmp_ge (tgt := 39) hx hb dX3_add_6 (by decide) (fun c => absurd c (by decide)) (fun _ => ?_)
  refine lv_aload_n hx hb dX3_add_9 rfl (lv_at hl 0 rfl) ?_
  refine va_get (D := (dC, dI)) (ci := 3) (v := .ref h1) (C := RX3) (T := TX3) (N := 3) hx hb hG inGX3 hown hK hP 0 rfl rfl 0 (by decide) (hG _ wd_139) (fun _ h9 => h9) rfl dX3_add_10 ?_
  refine lv_aload_n hx hb dX3_add_13 rfl (lv_at hl 0 rfl) ?_
  refine va_get (D := (dC, dI)) (ci := 3) (v := .int 0) (C := RX3) (T := TX3) (N := 3) hx hb hG inGX3 hown hK hP 0 rfl rfl 2 (by decide) (hG _ wd_141) (fun _ h9 => h9) rfl dX3_add_14 ?_
  refine lv_iload_n hx hb dX3_add_17 rfl (lv_at hl 1 rfl) ?_
  refine va_iast hx hb hK hP hD hS 1 0 rfl rfl (iv_in (by decide : iv 0 0 0) (by decide) (by decide) : vp_in 0 40) dX3_add_18 (fun H locs hP hD hS => ?_)
  have hP : va_P (dC, dI) vwCl [(h0, .inr (3, [.ref h1, .ref h2, .int 0])), (h1, .inl (y0, 40, .inl (upd (fun _ => 0) (0 : Int32).toNatClampNeg x0))), (h2, .inl (y1, 40, .inl (fun _ => 0)))] H := hP
  have hD : va_D A [(h0, .inr (3, [.ref h1, .ref h2, .int 0])), (h1, .inl (y0, 40, .inl (upd (fun _ => 0) (0 : Int32).toNatClampNeg x0))), (h2, .inl (y1, 40, .inl (fun _ => 0)))] := hD
  obtain ⟨f1, ef1⟩ : ∃ z, z = upd (fun _ => 0) (0 : Int32).toNatClampNeg x0 := ⟨_, rfl⟩
  rw [← ef1] at hP hD
  have if1 : ∀ j, iv (f1 j) 0 2147483647 := by rw [ef1]; exact iv_upd (fun _ => (by decide : iv 0 0 0)) ix0 (by decide) (by decide) (by decide) (by decide)
  refine lv_aload_n hx hb dX3_add_19 rfl (lv_at hl 0 rfl) ?_
  refine va_get (D := (dC, dI)) (ci := 3) (v := .ref h2) (C := RX3) (T := TX3) (N := 3) hx hb hG inGX3 hown hK hP 0 rfl rfl 1 (by decide) (hG _ wd_140) (fun _ h9 => h9) rfl dX3_add_20 ?_
  refine lv_aload_n hx hb dX3_add_23 rfl (lv_at hl 0 rfl) ?_
  refine va_get (D := (dC, dI)) (ci := 3) (v := .int 0) (C := RX3) (T := TX3) (N := 3) hx hb hG inGX3 hown hK hP 0 rfl rfl 2 (by decide) (hG _ wd_141) (fun _ h9 => h9) rfl dX3_add_24 ?_
  refine lv_iload_n hx hb dX3_add_27 rfl (lv_at hl 2 rfl) ?_
  refine va_iast hx hb hK hP hD hS 2 1 rfl rfl (iv_in (by decide : iv 0 0 0) (by decide) (by decide) : vp_in 0 40) dX3_add_28 (fun H locs hP hD hS => ?_)
  have hP : va_P (dC, dI) vwCl [(h0, .inr (3, [.ref h1, .ref h2, .int 0])), (h1, .inl (y0, 40, .inl f1)), (h2, .inl (y1, 40, .inl (upd (fun _ => 0) (0 : Int32).toNatClampNeg x1)))] H := hP
  have hD : va_D A [(h0, .inr (3, [.ref h1, .ref h2, .int 0])), (h1, .inl (y0, 40, .inl f1)), (h2, .inl (y1, 40, .inl (upd (fun _ => 0) (0 : Int32).toNatClampNeg x1)))] := hD
  obtain ⟨f2, ef2⟩ : ∃ z, z = upd (fun _ => 0) (0 : Int32).toNatClampNeg x1 := ⟨_, rfl⟩
  rw [← ef2] at hP hD
  have if2 : ∀ j, iv (f2 j) 0 255 := by rw [ef2]; exact iv_upd (fun _ => (by decide : iv 0 0 0)) ix1 (by decide) (by decide) (by decide) (by decide)
  refine lv_aload_n hx hb dX3_add_29 rfl (lv_at hl 0 rfl) ?_
  refine lv_dup hx hb dX3_add_30 rfl ?_
  refine va_get (D := (dC, dI)) (ci := 3) (v := .int 0) (C := RX3) (T := TX3) (N := 3) hx hb hG inGX3 hown hK hP 0 rfl rfl 2 (by decide) (hG _ wd_141) (fun _ h9 => h9) rfl dX3_add_31 ?_
  refine lv_iconst (v := 1) hx hb dX3_add_34 (by decide) ?_
  refine lv_iadd hx hb dX3_add_35 ?_
  refine lv_val (y := 1) (by decide +kernel) ?_
  refine va_put (D := (dC, dI)) (ci := 3) (v := .int 1) (ty := .int) (C := RX3) (T := TX3) (N := 3) hx hb hG inGX3 tyX3 tyX3_ok nmX3 hown hK hP hD hS 0 rfl rfl 2 (by decide) (hG _ wd_141) (fun _ h9 => h9) rfl (by decide +kernel) rfl rfl (Nat.le_of_ble_eq_true rfl) dX3_add_36 (fun H locs hP hD hS => ?_)
  have hP : va_P (dC, dI) vwCl [(h0, .inr (3, [.ref h1, .ref h2, .int 1])), (h1, .inl (y0, 40, .inl f1)), (h2, .inl (y1, 40, .inl f2))] H := hP
  have hD : va_D A [(h0, .inr (3, [.ref h1, .ref h2, .int 1])), (h1, .inl (y0, 40, .inl f1)), (h2, .inl (y1, 40, .inl f2))] := hD
  have hP9 := hP.sub (ws' := [(h0, .inr (3, [.ref h1, .ref h2, .int 1])), (h1, .inl (y0, 40, .inl f1)), (h2, .inl (y1, 40, .inl f2))]) [0, 1, 2] rfl
  have hD9 := hD.sub (ws' := [(h0, .inr (3, [.ref h1, .ref h2, .int 1])), (h1, .inl (y0, 40, .inl f1)), (h2, .inl (y1, 40, .inl f2))]) [0, 1, 2] (by decide) rfl
  have hK9 := hK.sub (tys' := [(y0, .int), (y1, .int)]) [0, 1] rfl
  exact W.vret hx hb hr (fun t ht hW => ⟨⟨(f1, f2), rfl, ⟨(fun j => iv_w (if1 j) (by decide) (by decide)), (fun j => iv_w (if2 j) (by decide) (by decide)), trivial⟩, by rw [ht]; exact hP9, va_K.moved hW.alike hK9, hD9⟩, hS.F ht⟩) hS.2.2 dX3_add_39
set_option maxHeartbeats 4000000 in
set_option maxRecDepth 100000 in
theorem cX3_waiting_1 (l : Launch) (dC : Nat → ClassId) (dI : Nat → Nat → Nat) (h0 h1 h2 : Nat) (sz : Nat) : Met l yX3_waiting (Cond.code yX3_waiting cX3_waiting 1 (some .int) :: lw_G) ({ frames := 0, cells := 0, slots := 0, locals := 0 }) (va_Pc [.ref h0] (fun U => U.heap.size = sz ∧ va_P (dC, dI) vwCl [(h0, .inr (3, [.ref h1, .ref h2, .int 1]))] U.heap ∧ va_K (dC, dI) vwCl [] U ∧ va_D (fun _ => True) [(h0, .inr (3, [.ref h1, .ref h2, .int 1]))])) (va_Qi (fun (r : Int32) (u : Unit) => r = 1 ∧ True) (fun (u : Unit) (t : State) => va_P (dC, dI) vwCl [(h0, .inr (3, [.ref h1, .ref h2, .int 1]))] t.heap ∧ va_K (dC, dI) vwCl [] t ∧ va_D (va_A [(h0, .inr (3, [.ref h1, .ref h2, .int 1]))] sz) [(h0, .inr (3, [.ref h1, .ref h2, .int 1]))]) (va_A [(h0, .inr (3, [.ref h1, .ref h2, .int 1]))] sz)) 0 0 (va_A [(h0, .inr (3, [.ref h1, .ref h2, .int 1]))] sz) := by
  refine Met.ofW (cc := cX3_waiting) (maxL := 1) (ret := (some .int)) (by decide) rfl ?_
  intro p e s m args below meth c s₁ B hml hv
  obtain ⟨rfl, hsz, hP, hK, hD0⟩ := hv
  have hx := B.exec
  have hb := B.bytes
  have hr := B.returns
  have hts0 := atoms_spec (ws := Cond.code yX3_waiting cX3_waiting 1 (some .int) :: lw_G) B.pre
  have hG : ∀ w ∈ lw_G, w.before _ s = true := fun w h => hts0 w (List.mem_cons_of_mem _ h)
  have hown : s.vm.findClass RX3 = some m.cls := findClass_of_methodNamed B.named
  have hlocks := B.notSynchronized
  subst hsz
  have hD := hD0.self (sz := s.heap.size)
  generalize hAe : va_A [(h0, .inr (3, [.ref h1, .ref h2, .int 1]))] s.heap.size = A at hD ⊢
  have hA : ∀ q : Nat, s.heap.size ≤ q → A q := fun q h => by rw [← hAe]; exact Or.inr h
  have hS : va_S A s.heap s.heap [] := va_S.rf
  have hP : va_P (dC, dI) vwCl [(h0, .inr (3, [.ref h1, .ref h2, .int 1]))] s.heap := hP
  have hl := lv_entry ([.ref h0]) (n := 1) (Nat.le_of_ble_eq_true rfl)
  rw [lg_entry_eq]
  generalize (lg_sl ([.ref h0]) ++ List.replicate (1 - (lg_sl ([.ref h0])).length) Slot.unset).toArray = ls at hl ⊢
  have hl : lv_has ls 1 [(0, .ref h0)] := hl
  refine lv_aload_n hx hb dX3_waiting_0 rfl (lv_at hl 0 rfl) ?_
  refine va_get (D := (dC, dI)) (ci := 3) (v := .int 1) (C := RX3) (T := TX3) (N := 3) hx hb hG inGX3 hown hK hP 0 rfl rfl 2 (by decide) (hG _ wd_141) (fun _ h9 => h9) rfl dX3_waiting_1 ?_
  have hP9 := hP.sub (ws' := [(h0, .inr (3, [.ref h1, .ref h2, .int 1]))]) [0] rfl
  have hD9 := hD.sub (ws' := [(h0, .inr (3, [.ref h1, .ref h2, .int 1]))]) [0] (by decide) rfl
  have hK9 := hK.sub (tys' := []) [] rfl
  exact W.iret (v := 1) hx hb hr (fun t ht hW => ⟨⟨1, (), rfl, ⟨rfl, trivial⟩, by rw [ht]; exact hP9, va_K.moved hW.alike hK9, hD9⟩, hS.F ht⟩) hS.2.2 dX3_waiting_4
set_option maxHeartbeats 4000000 in
set_option maxRecDepth 100000 in
theorem cX2_expect_6 (l : Launch) (dC : Nat → ClassId) (dI : Nat → Nat → Nat) (h0 h1 h2 h3 h4 h5 : Nat) (y0 y1 : ClassId) (sz : Nat) (x0 x1 : Int32) (ix0 : iv x0 0 2147483647) (ix1 : iv x1 0 255) : Met l yX2_expect (Cond.code yX2_expect cX2_expect 3 (some .int) :: lw_G) ({ frames := 1, cells := 0, slots := 0, locals := 22 }) (va_Pc [.ref h0, .int x0, .int x1] (fun U => U.heap.size = sz ∧ va_P (dC, dI) vwCl [(h0, .inr (2, [.ref h1, .ref h2, .ref h3, .int 0, .int 0, .int 0, .int 0, .int 0])), (h2, .inr (3, [.ref h4, .ref h5, .int 0])), (h4, .inl (y0, 40, .inl (fun _ => 0))), (h5, .inl (y1, 40, .inl (fun _ => 0)))] U.heap ∧ va_K (dC, dI) vwCl [(y0, .int), (y1, .int)] U ∧ va_D (fun _ => True) [(h0, .inr (2, [.ref h1, .ref h2, .ref h3, .int 0, .int 0, .int 0, .int 0, .int 0])), (h2, .inr (3, [.ref h4, .ref h5, .int 0])), (h4, .inl (y0, 40, .inl (fun _ => 0))), (h5, .inl (y1, 40, .inl (fun _ => 0)))])) (va_Qi (fun (r : Int32) (u : (Nat → Int32) × (Nat → Int32)) => r = 1 ∧ (∀ j, iv (u.1 j) 0 2147483647) ∧ (∀ j, iv (u.2 j) 0 255) ∧ True) (fun (u : (Nat → Int32) × (Nat → Int32)) (t : State) => va_P (dC, dI) vwCl [(h0, .inr (2, [.ref h1, .ref h2, .ref h3, .int 0, .int 0, .int 0, .int 0, .int 0])), (h2, .inr (3, [.ref h4, .ref h5, .int 1])), (h4, .inl (y0, 40, .inl u.1)), (h5, .inl (y1, 40, .inl u.2))] t.heap ∧ va_K (dC, dI) vwCl [(y0, .int), (y1, .int)] t ∧ va_D (va_A [(h0, .inr (2, [.ref h1, .ref h2, .ref h3, .int 0, .int 0, .int 0, .int 0, .int 0])), (h2, .inr (3, [.ref h4, .ref h5, .int 0])), (h4, .inl (y0, 40, .inl (fun _ => 0))), (h5, .inl (y1, 40, .inl (fun _ => 0)))] sz) [(h0, .inr (2, [.ref h1, .ref h2, .ref h3, .int 0, .int 0, .int 0, .int 0, .int 0])), (h2, .inr (3, [.ref h4, .ref h5, .int 1])), (h4, .inl (y0, 40, .inl u.1)), (h5, .inl (y1, 40, .inl u.2))]) (va_A [(h0, .inr (2, [.ref h1, .ref h2, .ref h3, .int 0, .int 0, .int 0, .int 0, .int 0])), (h2, .inr (3, [.ref h4, .ref h5, .int 0])), (h4, .inl (y0, 40, .inl (fun _ => 0))), (h5, .inl (y1, 40, .inl (fun _ => 0)))] sz)) 0 0 (va_A [(h0, .inr (2, [.ref h1, .ref h2, .ref h3, .int 0, .int 0, .int 0, .int 0, .int 0])), (h2, .inr (3, [.ref h4, .ref h5, .int 0])), (h4, .inl (y0, 40, .inl (fun _ => 0))), (h5, .inl (y1, 40, .inl (fun _ => 0)))] sz) := by
  refine Met.ofW (cc := cX2_expect) (maxL := 3) (ret := (some .int)) (by decide) rfl ?_
  intro p e s m args below meth c s₁ B hml hv
  obtain ⟨rfl, hsz, hP, hK, hD0⟩ := hv
  have hx := B.exec
  have hb := B.bytes
  have hr := B.returns
  have hts0 := atoms_spec (ws := Cond.code yX2_expect cX2_expect 3 (some .int) :: lw_G) B.pre
  have hG : ∀ w ∈ lw_G, w.before _ s = true := fun w h => hts0 w (List.mem_cons_of_mem _ h)
  have hown : s.vm.findClass RX2 = some m.cls := findClass_of_methodNamed B.named
  have hlocks := B.notSynchronized
  subst hsz
  have hD := hD0.self (sz := s.heap.size)
  generalize hAe : va_A [(h0, .inr (2, [.ref h1, .ref h2, .ref h3, .int 0, .int 0, .int 0, .int 0, .int 0])), (h2, .inr (3, [.ref h4, .ref h5, .int 0])), (h4, .inl (y0, 40, .inl (fun _ => 0))), (h5, .inl (y1, 40, .inl (fun _ => 0)))] s.heap.size = A at hD ⊢
  have hA : ∀ q : Nat, s.heap.size ≤ q → A q := fun q h => by rw [← hAe]; exact Or.inr h
  have hS : va_S A s.heap s.heap [] := va_S.rf
  have hP : va_P (dC, dI) vwCl [(h0, .inr (2, [.ref h1, .ref h2, .ref h3, .int 0, .int 0, .int 0, .int 0, .int 0])), (h2, .inr (3, [.ref h4, .ref h5, .int 0])), (h4, .inl (y0, 40, .inl (fun _ => 0))), (h5, .inl (y1, 40, .inl (fun _ => 0)))] s.heap := hP
  have hl := lv_entry ([.ref h0, .int x0, .int x1]) (n := 3) (Nat.le_of_ble_eq_true rfl)
  rw [lg_entry_eq]
  generalize (lg_sl ([.ref h0, .int x0, .int x1]) ++ List.replicate (3 - (lg_sl ([.ref h0, .int x0, .int x1])).length) Slot.unset).toArray = ls at hl ⊢
  have hl : lv_has ls 3 [(0, .ref h0), (1, .int x0), (2, .int x1)] := hl
  refine lv_iload_n hx hb dX2_expect_0 rfl (lv_at hl 1 rfl) ?_
  refine lv_aload_n hx hb dX2_expect_1 rfl (lv_at hl 0 rfl) ?_
  refine va_get (D := (dC, dI)) (ci := 2) (v := .int 0) (C := RX2) (T := TX2) (N := 8) hx hb hG inGX2 hown hK hP 0 rfl rfl 3 (by decide) (hG _ wd_152) (fun _ h9 => h9) rfl dX2_expect_2 ?_
  refine lv_icmp_lt (tgt := 30) hx hb dX2_expect_5 (by decide) (fun c => absurd c (iv_nlt ix0 (by decide : iv 0 0 0) (by decide))) (fun _ => ?_)
  refine lv_iload_n hx hb dX2_expect_8 rfl (lv_at hl 2 rfl) ?_
  refine lv_if_lt (tgt := 30) hx hb dX2_expect_9 (by decide) (fun c => absurd c (iv_nlt ix1 (by decide : iv 0 0 0) (by decide))) (fun _ => ?_)
  refine lv_iload_n hx hb dX2_expect_12 rfl (lv_at hl 2 rfl) ?_
  refine lv_sipush (v := 255) hx hb dX2_expect_13 (by decide) ?_
  refine lv_icmp_gt (tgt := 30) hx hb dX2_expect_16 (by decide) (fun c => absurd c (iv_nlt (by decide : iv 255 255 255) ix1 (by decide))) (fun _ => ?_)
  refine lv_aload_n hx hb dX2_expect_19 rfl (lv_at hl 0 rfl) ?_
  refine va_get (D := (dC, dI)) (ci := 2) (v := .ref h2) (C := RX2) (T := TX2) (N := 8) hx hb hG inGX2 hown hK hP 0 rfl rfl 1 (by decide) (hG _ wd_150) (fun _ h9 => h9) rfl dX2_expect_20 ?_
  refine lv_iload_n hx hb dX2_expect_23 rfl (lv_at hl 1 rfl) ?_
  have hPc := hP.sub (ws' := [(h2, .inr (3, [.ref h4, .ref h5, .int 0]))]) [1] rfl
  have hDc := hD.sub (ws' := [(h2, .inr (3, [.ref h4, .ref h5, .int 0]))]) [1] (by decide) rfl
  have hKc := hK.sub (tys' := []) [] rfl
  have hFc := va_free (wc := [(h2, .inr (3, [.ref h4, .ref h5, .int 0]))]) hD hS hA [1] rfl
  refine va_calli (va_runV (As := [.int x0]) (rest := []) ⟨hx, hb, hml, hown, hG⟩ (cX3_takes_1 l dC dI h2 h4 h5 s.heap.size x0 ix0) (cwV 1 hG (gV wd_838 wd_839 wd_840 wd_7 wd_841) rfl rfl rfl (by decide +kernel) ⟨Nat.le_of_ble_eq_true rfl, Nat.le_of_ble_eq_true rfl⟩) ⟨fun a U g mk q => by obtain ⟨q0, q1, qP, qK, qD⟩ := q; exact ⟨q0, q1, qP, va_K.moved (u := U) (U := U.calling g mk a) (Vm.Alike.refl U.vm) qK, qD⟩, va_recv hKc hPc (ci := 3) (q0 := 0) rfl rfl, fun U hU hW => ⟨rfl, by rw [hU], by rw [hU]; exact hPc, va_K.moved hW.alike hKc, hDc.weaken (fun _ _ _ _ => trivial)⟩⟩ rfl rfl hl.1 rfl (lv_room (Nat.le_of_ble_eq_true rfl)) dX2_expect_24 ⟨by decide, by decide⟩) hS (fun q _ h => hFc q h) hFc (fun r1 u2 t H1 locs ht hvm hw hB hz1 hk1 hS => ?_)
  have hw : r1 = 1 ∧ True := hw
  obtain ⟨er1, -⟩ := hw
  obtain ⟨hP1, hK1, hD1⟩ := hB
  rw [ht] at hP1
  have hK1 := va_K.moved hvm.symm hK1
  obtain ⟨hP, hD⟩ := va_join (wr := [(h0, .inr (2, [.ref h1, .ref h2, .ref h3, .int 0, .int 0, .int 0, .int 0, .int 0])), (h4, .inl (y0, 40, .inl (fun _ => 0))), (h5, .inl (y1, 40, .inl (fun _ => 0)))]) (w1 := [(h2, .inr (3, [.ref h4, .ref h5, .int 0]))]) hP hD [1] [0, 2, 3] rfl rfl (by decide) (by decide) hk1 hFc hP1 hD1
  have hK := (hK.sub (tys' := [(y0, .int), (y1, .int)]) [0, 1] rfl).app hK1
  generalize H1 = H at hP hS ⊢
  have hP : va_P (dC, dI) vwCl [(h0, .inr (2, [.ref h1, .ref h2, .ref h3, .int 0, .int 0, .int 0, .int 0, .int 0])), (h4, .inl (y0, 40, .inl (fun _ => 0))), (h5, .inl (y1, 40, .inl (fun _ => 0))), (h2, .inr (3, [.ref h4, .ref h5, .int 0]))] H := hP
  have hD : va_D A [(h0, .inr (2, [.ref h1, .ref h2, .ref h3, .int 0, .int 0, .int 0, .int 0, .int 0])), (h4, .inl (y0, 40, .inl (fun _ => 0))), (h5, .inl (y1, 40, .inl (fun _ => 0))), (h2, .inr (3, [.ref h4, .ref h5, .int 0]))] := hD
  have hK : va_K (dC, dI) vwCl [(y0, .int), (y1, .int)] s := hK
  subst er1
  refine lv_if_ne (tgt := 32) hx hb dX2_expect_27 (by decide) (fun _ => ?_) (fun c => absurd c (by decide))
  refine lv_aload_n hx hb dX2_expect_32 rfl (lv_at hl 0 rfl) ?_
  refine va_get (D := (dC, dI)) (ci := 2) (v := .ref h2) (C := RX2) (T := TX2) (N := 8) hx hb hG inGX2 hown hK hP 0 rfl rfl 1 (by decide) (hG _ wd_150) (fun _ h9 => h9) rfl dX2_expect_33 ?_
  refine lv_iload_n hx hb dX2_expect_36 rfl (lv_at hl 1 rfl) ?_
  refine lv_iload_n hx hb dX2_expect_37 rfl (lv_at hl 2 rfl) ?_
  have hPc := hP.sub (ws' := [(h2, .inr (3, [.ref h4, .ref h5, .int 0])), (h4, .inl (y0, 40, .inl (fun _ => 0))), (h5, .inl (y1, 40, .inl (fun _ => 0)))]) [3, 1, 2] rfl
  have hDc := hD.sub (ws' := [(h2, .inr (3, [.ref h4, .ref h5, .int 0])), (h4, .inl (y0, 40, .inl (fun _ => 0))), (h5, .inl (y1, 40, .inl (fun _ => 0)))]) [3, 1, 2] (by decide) rfl
  have hKc := hK.sub (tys' := [(y0, .int), (y1, .int)]) [0, 1] rfl
  have hFc := va_free (wc := [(h2, .inr (3, [.ref h4, .ref h5, .int 0])), (h4, .inl (y0, 40, .inl (fun _ => 0))), (h5, .inl (y1, 40, .inl (fun _ => 0)))]) hD hS hA [3, 1, 2] rfl
  refine va_callv (va_runV (As := [.int x0, .int x1]) (rest := []) ⟨hx, hb, hml, hown, hG⟩ (cX3_add_1 l dC dI h2 h4 h5 y0 y1 H.size x0 x1 ix0 ix1) (cwV 2 hG (gV wd_842 wd_843 wd_844 wd_7 wd_845) rfl rfl rfl (by decide +kernel) ⟨Nat.le_of_ble_eq_true rfl, Nat.le_of_ble_eq_true rfl⟩) ⟨fun a U g mk q => by obtain ⟨q0, q1, qP, qK, qD⟩ := q; exact ⟨q0, q1, qP, va_K.moved (u := U) (U := U.calling g mk a) (Vm.Alike.refl U.vm) qK, qD⟩, va_recv hKc hPc (ci := 3) (q0 := 0) rfl rfl, fun U hU hW => ⟨rfl, by rw [hU], by rw [hU]; exact hPc, va_K.moved hW.alike hKc, hDc.weaken (fun _ _ _ _ => trivial)⟩⟩ rfl rfl hl.1 rfl (lv_room (Nat.le_of_ble_eq_true rfl)) dX2_expect_38 ⟨by decide, by decide⟩) hS (fun q _ h => hFc q h) hFc (fun u4 t H1 locs ht hvm hw hB hz1 hk1 hS => ?_)
  obtain ⟨u4_0, u4_1⟩ := u4
  have hw : (∀ j, iv (u4_0 j) 0 2147483647) ∧ (∀ j, iv (u4_1 j) 0 255) ∧ True := hw
  obtain ⟨iu4_0, iu4_1, -⟩ := hw
  obtain ⟨hP1, hK1, hD1⟩ := hB
  rw [ht] at hP1
  have hK1 := va_K.moved hvm.symm hK1
  obtain ⟨hP, hD⟩ := va_join (wr := [(h0, .inr (2, [.ref h1, .ref h2, .ref h3, .int 0, .int 0, .int 0, .int 0, .int 0]))]) (w1 := [(h2, .inr (3, [.ref h4, .ref h5, .int 1])), (h4, .inl (y0, 40, .inl u4_0)), (h5, .inl (y1, 40, .inl u4_1))]) hP hD [3, 1, 2] [0] rfl rfl (by decide) (by decide) hk1 hFc hP1 hD1
  have hK := (hK.sub (tys' := []) [] rfl).app hK1
  generalize H1 = H at hP hS ⊢
  have hP : va_P (dC, dI) vwCl [(h0, .inr (2, [.ref h1, .ref h2, .ref h3, .int 0, .int 0, .int 0, .int 0, .int 0])), (h2, .inr (3, [.ref h4, .ref h5, .int 1])), (h4, .inl (y0, 40, .inl u4_0)), (h5, .inl (y1, 40, .inl u4_1))] H := hP
  have hD : va_D A [(h0, .inr (2, [.ref h1, .ref h2, .ref h3, .int 0, .int 0, .int 0, .int 0, .int 0])), (h2, .inr (3, [.ref h4, .ref h5, .int 1])), (h4, .inl (y0, 40, .inl u4_0)), (h5, .inl (y1, 40, .inl u4_1))] := hD
  have hK : va_K (dC, dI) vwCl [(y0, .int), (y1, .int)] s := hK
  refine lv_aload_n hx hb dX2_expect_41 rfl (lv_at hl 0 rfl) ?_
  refine va_get (D := (dC, dI)) (ci := 2) (v := .ref h2) (C := RX2) (T := TX2) (N := 8) hx hb hG inGX2 hown hK hP 0 rfl rfl 1 (by decide) (hG _ wd_150) (fun _ h9 => h9) rfl dX2_expect_42 ?_
  have hPc := hP.sub (ws' := [(h2, .inr (3, [.ref h4, .ref h5, .int 1]))]) [1] rfl
  have hDc := hD.sub (ws' := [(h2, .inr (3, [.ref h4, .ref h5, .int 1]))]) [1] (by decide) rfl
  have hKc := hK.sub (tys' := []) [] rfl
  have hFc := va_free (wc := [(h2, .inr (3, [.ref h4, .ref h5, .int 1]))]) hD hS hA [1] rfl
  refine va_calli (va_runV (As := []) (rest := []) ⟨hx, hb, hml, hown, hG⟩ (cX3_waiting_1 l dC dI h2 h4 h5 H.size) (cwV 0 hG (gV wd_846 wd_847 wd_848 wd_7 wd_849) rfl rfl rfl (by decide +kernel) ⟨Nat.le_of_ble_eq_true rfl, Nat.le_of_ble_eq_true rfl⟩) ⟨fun a U g mk q => by obtain ⟨q0, q1, qP, qK, qD⟩ := q; exact ⟨q0, q1, qP, va_K.moved (u := U) (U := U.calling g mk a) (Vm.Alike.refl U.vm) qK, qD⟩, va_recv hKc hPc (ci := 3) (q0 := 0) rfl rfl, fun U hU hW => ⟨rfl, by rw [hU], by rw [hU]; exact hPc, va_K.moved hW.alike hKc, hDc.weaken (fun _ _ _ _ => trivial)⟩⟩ rfl rfl hl.1 rfl (lv_room (Nat.le_of_ble_eq_true rfl)) dX2_expect_45 ⟨by decide, by decide⟩) hS (fun q _ h => hFc q h) hFc (fun r5 u6 t H1 locs ht hvm hw hB hz1 hk1 hS => ?_)
  have hw : r5 = 1 ∧ True := hw
  obtain ⟨er5, -⟩ := hw
  obtain ⟨hP1, hK1, hD1⟩ := hB
  rw [ht] at hP1
  have hK1 := va_K.moved hvm.symm hK1
  obtain ⟨hP, hD⟩ := va_join (wr := [(h0, .inr (2, [.ref h1, .ref h2, .ref h3, .int 0, .int 0, .int 0, .int 0, .int 0])), (h4, .inl (y0, 40, .inl u4_0)), (h5, .inl (y1, 40, .inl u4_1))]) (w1 := [(h2, .inr (3, [.ref h4, .ref h5, .int 1]))]) hP hD [1] [0, 2, 3] rfl rfl (by decide) (by decide) hk1 hFc hP1 hD1
  have hK := (hK.sub (tys' := [(y0, .int), (y1, .int)]) [0, 1] rfl).app hK1
  generalize H1 = H at hP hS ⊢
  have hP : va_P (dC, dI) vwCl [(h0, .inr (2, [.ref h1, .ref h2, .ref h3, .int 0, .int 0, .int 0, .int 0, .int 0])), (h4, .inl (y0, 40, .inl u4_0)), (h5, .inl (y1, 40, .inl u4_1)), (h2, .inr (3, [.ref h4, .ref h5, .int 1]))] H := hP
  have hD : va_D A [(h0, .inr (2, [.ref h1, .ref h2, .ref h3, .int 0, .int 0, .int 0, .int 0, .int 0])), (h4, .inl (y0, 40, .inl u4_0)), (h5, .inl (y1, 40, .inl u4_1)), (h2, .inr (3, [.ref h4, .ref h5, .int 1]))] := hD
  have hK : va_K (dC, dI) vwCl [(y0, .int), (y1, .int)] s := hK
  subst er5
  have hP9 := hP.sub (ws' := [(h0, .inr (2, [.ref h1, .ref h2, .ref h3, .int 0, .int 0, .int 0, .int 0, .int 0])), (h2, .inr (3, [.ref h4, .ref h5, .int 1])), (h4, .inl (y0, 40, .inl u4_0)), (h5, .inl (y1, 40, .inl u4_1))]) [0, 3, 1, 2] rfl
  have hD9 := hD.sub (ws' := [(h0, .inr (2, [.ref h1, .ref h2, .ref h3, .int 0, .int 0, .int 0, .int 0, .int 0])), (h2, .inr (3, [.ref h4, .ref h5, .int 1])), (h4, .inl (y0, 40, .inl u4_0)), (h5, .inl (y1, 40, .inl u4_1))]) [0, 3, 1, 2] (by decide) rfl
  have hK9 := hK.sub (tys' := [(y0, .int), (y1, .int)]) [0, 1] rfl
  exact W.iret (v := 1) hx hb hr (fun t ht hW => ⟨⟨1, (u4_0, u4_1), rfl, ⟨rfl, (fun j => iv_w (iu4_0 j) (by decide) (by decide)), (fun j => iv_w (iu4_1 j) (by decide) (by decide)), trivial⟩, by rw [ht]; exact hP9, va_K.moved hW.alike hK9, hD9⟩, hS.F ht⟩) hS.2.2 dX2_expect_48
set_option maxHeartbeats 4000000 in
set_option maxRecDepth 100000 in
theorem cX11_event_6 (l : Launch) (dC : Nat → ClassId) (dI : Nat → Nat → Nat) (h0 h1 h2 h3 h4 h5 h6 h7 h8 h9 : Nat) (y0 y1 : ClassId) (sz : Nat) (x0 x1 : Int32) (ix0 : iv x0 0 2147483647) (ix1 : iv x1 0 255) : Met l yX11_event (Cond.code yX11_event cX11_event 3 (some .int) :: lw_G) ({ frames := 2, cells := 0, slots := 0, locals := 44 }) (va_Pc [.ref h0, .int x0, .int x1] (fun U => U.heap.size = sz ∧ va_P (dC, dI) vwCl [(h0, .inr (11, [.ref h1, .ref h2, .ref h3, .ref h4, .ref h5, .int 0, .int 0])), (h3, .inr (2, [.ref h6, .ref h7, .ref h2, .int 0, .int 0, .int 0, .int 0, .int 0])), (h7, .inr (3, [.ref h8, .ref h9, .int 0])), (h8, .inl (y0, 40, .inl (fun _ => 0))), (h9, .inl (y1, 40, .inl (fun _ => 0)))] U.heap ∧ va_K (dC, dI) vwCl [(y0, .int), (y1, .int)] U ∧ va_D (fun _ => True) [(h0, .inr (11, [.ref h1, .ref h2, .ref h3, .ref h4, .ref h5, .int 0, .int 0])), (h3, .inr (2, [.ref h6, .ref h7, .ref h2, .int 0, .int 0, .int 0, .int 0, .int 0])), (h7, .inr (3, [.ref h8, .ref h9, .int 0])), (h8, .inl (y0, 40, .inl (fun _ => 0))), (h9, .inl (y1, 40, .inl (fun _ => 0)))])) (va_Qi (fun (r : Int32) (u : (Nat → Int32) × (Nat → Int32)) => r = 1 ∧ (∀ j, iv (u.1 j) 0 2147483647) ∧ (∀ j, iv (u.2 j) 0 255) ∧ True) (fun (u : (Nat → Int32) × (Nat → Int32)) (t : State) => va_P (dC, dI) vwCl [(h0, .inr (11, [.ref h1, .ref h2, .ref h3, .ref h4, .ref h5, .int 0, .int 0])), (h3, .inr (2, [.ref h6, .ref h7, .ref h2, .int 0, .int 0, .int 0, .int 0, .int 0])), (h7, .inr (3, [.ref h8, .ref h9, .int 1])), (h8, .inl (y0, 40, .inl u.1)), (h9, .inl (y1, 40, .inl u.2))] t.heap ∧ va_K (dC, dI) vwCl [(y0, .int), (y1, .int)] t ∧ va_D (va_A [(h0, .inr (11, [.ref h1, .ref h2, .ref h3, .ref h4, .ref h5, .int 0, .int 0])), (h3, .inr (2, [.ref h6, .ref h7, .ref h2, .int 0, .int 0, .int 0, .int 0, .int 0])), (h7, .inr (3, [.ref h8, .ref h9, .int 0])), (h8, .inl (y0, 40, .inl (fun _ => 0))), (h9, .inl (y1, 40, .inl (fun _ => 0)))] sz) [(h0, .inr (11, [.ref h1, .ref h2, .ref h3, .ref h4, .ref h5, .int 0, .int 0])), (h3, .inr (2, [.ref h6, .ref h7, .ref h2, .int 0, .int 0, .int 0, .int 0, .int 0])), (h7, .inr (3, [.ref h8, .ref h9, .int 1])), (h8, .inl (y0, 40, .inl u.1)), (h9, .inl (y1, 40, .inl u.2))]) (va_A [(h0, .inr (11, [.ref h1, .ref h2, .ref h3, .ref h4, .ref h5, .int 0, .int 0])), (h3, .inr (2, [.ref h6, .ref h7, .ref h2, .int 0, .int 0, .int 0, .int 0, .int 0])), (h7, .inr (3, [.ref h8, .ref h9, .int 0])), (h8, .inl (y0, 40, .inl (fun _ => 0))), (h9, .inl (y1, 40, .inl (fun _ => 0)))] sz)) 0 0 (va_A [(h0, .inr (11, [.ref h1, .ref h2, .ref h3, .ref h4, .ref h5, .int 0, .int 0])), (h3, .inr (2, [.ref h6, .ref h7, .ref h2, .int 0, .int 0, .int 0, .int 0, .int 0])), (h7, .inr (3, [.ref h8, .ref h9, .int 0])), (h8, .inl (y0, 40, .inl (fun _ => 0))), (h9, .inl (y1, 40, .inl (fun _ => 0)))] sz) := by
  refine Met.ofW (cc := cX11_event) (maxL := 3) (ret := (some .int)) (by decide) rfl ?_
  intro p e s m args below meth c s₁ B hml hv
  obtain ⟨rfl, hsz, hP, hK, hD0⟩ := hv
  have hx := B.exec
  have hb := B.bytes
  have hr := B.returns
  have hts0 := atoms_spec (ws := Cond.code yX11_event cX11_event 3 (some .int) :: lw_G) B.pre
  have hG : ∀ w ∈ lw_G, w.before _ s = true := fun w h => hts0 w (List.mem_cons_of_mem _ h)
  have hown : s.vm.findClass RX11 = some m.cls := findClass_of_methodNamed B.named
  have hlocks := B.notSynchronized
  subst hsz
  have hD := hD0.self (sz := s.heap.size)
  generalize hAe : va_A [(h0, .inr (11, [.ref h1, .ref h2, .ref h3, .ref h4, .ref h5, .int 0, .int 0])), (h3, .inr (2, [.ref h6, .ref h7, .ref h2, .int 0, .int 0, .int 0, .int 0, .int 0])), (h7, .inr (3, [.ref h8, .ref h9, .int 0])), (h8, .inl (y0, 40, .inl (fun _ => 0))), (h9, .inl (y1, 40, .inl (fun _ => 0)))] s.heap.size = A at hD ⊢
  have hA : ∀ q : Nat, s.heap.size ≤ q → A q := fun q h => by rw [← hAe]; exact Or.inr h
  have hS : va_S A s.heap s.heap [] := va_S.rf
  have hP : va_P (dC, dI) vwCl [(h0, .inr (11, [.ref h1, .ref h2, .ref h3, .ref h4, .ref h5, .int 0, .int 0])), (h3, .inr (2, [.ref h6, .ref h7, .ref h2, .int 0, .int 0, .int 0, .int 0, .int 0])), (h7, .inr (3, [.ref h8, .ref h9, .int 0])), (h8, .inl (y0, 40, .inl (fun _ => 0))), (h9, .inl (y1, 40, .inl (fun _ => 0)))] s.heap := hP
  have hl := lv_entry ([.ref h0, .int x0, .int x1]) (n := 3) (Nat.le_of_ble_eq_true rfl)
  rw [lg_entry_eq]
  generalize (lg_sl ([.ref h0, .int x0, .int x1]) ++ List.replicate (3 - (lg_sl ([.ref h0, .int x0, .int x1])).length) Slot.unset).toArray = ls at hl ⊢
  have hl : lv_has ls 3 [(0, .ref h0), (1, .int x0), (2, .int x1)] := hl
  refine lv_aload_n hx hb dX11_event_0 rfl (lv_at hl 0 rfl) ?_
  refine va_get (D := (dC, dI)) (ci := 11) (v := .ref h3) (C := RX11) (T := TX11) (N := 7) hx hb hG inGX11 hown hK hP 0 rfl rfl 2 (by decide) (hG _ wd_397) (fun _ h9 => h9) rfl dX11_event_1 ?_
  refine lv_iload_n hx hb dX11_event_4 rfl (lv_at hl 1 rfl) ?_
  refine lv_iload_n hx hb dX11_event_5 rfl (lv_at hl 2 rfl) ?_
  have hPc := hP.sub (ws' := [(h3, .inr (2, [.ref h6, .ref h7, .ref h2, .int 0, .int 0, .int 0, .int 0, .int 0])), (h7, .inr (3, [.ref h8, .ref h9, .int 0])), (h8, .inl (y0, 40, .inl (fun _ => 0))), (h9, .inl (y1, 40, .inl (fun _ => 0)))]) [1, 2, 3, 4] rfl
  have hDc := hD.sub (ws' := [(h3, .inr (2, [.ref h6, .ref h7, .ref h2, .int 0, .int 0, .int 0, .int 0, .int 0])), (h7, .inr (3, [.ref h8, .ref h9, .int 0])), (h8, .inl (y0, 40, .inl (fun _ => 0))), (h9, .inl (y1, 40, .inl (fun _ => 0)))]) [1, 2, 3, 4] (by decide) rfl
  have hKc := hK.sub (tys' := [(y0, .int), (y1, .int)]) [0, 1] rfl
  have hFc := va_free (wc := [(h3, .inr (2, [.ref h6, .ref h7, .ref h2, .int 0, .int 0, .int 0, .int 0, .int 0])), (h7, .inr (3, [.ref h8, .ref h9, .int 0])), (h8, .inl (y0, 40, .inl (fun _ => 0))), (h9, .inl (y1, 40, .inl (fun _ => 0)))]) hD hS hA [1, 2, 3, 4] rfl
  refine va_calli (va_runV (As := [.int x0, .int x1]) (rest := []) ⟨hx, hb, hml, hown, hG⟩ (cX2_expect_6 l dC dI h3 h6 h7 h2 h8 h9 y0 y1 s.heap.size x0 x1 ix0 ix1) (cwV 2 hG (gV wd_834 wd_835 wd_836 wd_6 wd_837) rfl rfl rfl (by decide +kernel) ⟨Nat.le_of_ble_eq_true rfl, Nat.le_of_ble_eq_true rfl⟩) ⟨fun a U g mk q => by obtain ⟨q0, q1, qP, qK, qD⟩ := q; exact ⟨q0, q1, qP, va_K.moved (u := U) (U := U.calling g mk a) (Vm.Alike.refl U.vm) qK, qD⟩, va_recv hKc hPc (ci := 2) (q0 := 0) rfl rfl, fun U hU hW => ⟨rfl, by rw [hU], by rw [hU]; exact hPc, va_K.moved hW.alike hKc, hDc.weaken (fun _ _ _ _ => trivial)⟩⟩ rfl rfl hl.1 rfl (lv_room (Nat.le_of_ble_eq_true rfl)) dX11_event_6 ⟨by decide, by decide⟩) hS (fun q _ h => hFc q h) hFc (fun r1 u2 t H1 locs ht hvm hw hB hz1 hk1 hS => ?_)
  obtain ⟨u2_0, u2_1⟩ := u2
  have hw : r1 = 1 ∧ (∀ j, iv (u2_0 j) 0 2147483647) ∧ (∀ j, iv (u2_1 j) 0 255) ∧ True := hw
  obtain ⟨er1, iu2_0, iu2_1, -⟩ := hw
  obtain ⟨hP1, hK1, hD1⟩ := hB
  rw [ht] at hP1
  have hK1 := va_K.moved hvm.symm hK1
  obtain ⟨hP, hD⟩ := va_join (wr := [(h0, .inr (11, [.ref h1, .ref h2, .ref h3, .ref h4, .ref h5, .int 0, .int 0]))]) (w1 := [(h3, .inr (2, [.ref h6, .ref h7, .ref h2, .int 0, .int 0, .int 0, .int 0, .int 0])), (h7, .inr (3, [.ref h8, .ref h9, .int 1])), (h8, .inl (y0, 40, .inl u2_0)), (h9, .inl (y1, 40, .inl u2_1))]) hP hD [1, 2, 3, 4] [0] rfl rfl (by decide) (by decide) hk1 hFc hP1 hD1
  have hK := (hK.sub (tys' := []) [] rfl).app hK1
  generalize H1 = H at hP hS ⊢
  have hP : va_P (dC, dI) vwCl [(h0, .inr (11, [.ref h1, .ref h2, .ref h3, .ref h4, .ref h5, .int 0, .int 0])), (h3, .inr (2, [.ref h6, .ref h7, .ref h2, .int 0, .int 0, .int 0, .int 0, .int 0])), (h7, .inr (3, [.ref h8, .ref h9, .int 1])), (h8, .inl (y0, 40, .inl u2_0)), (h9, .inl (y1, 40, .inl u2_1))] H := hP
  have hD : va_D A [(h0, .inr (11, [.ref h1, .ref h2, .ref h3, .ref h4, .ref h5, .int 0, .int 0])), (h3, .inr (2, [.ref h6, .ref h7, .ref h2, .int 0, .int 0, .int 0, .int 0, .int 0])), (h7, .inr (3, [.ref h8, .ref h9, .int 1])), (h8, .inl (y0, 40, .inl u2_0)), (h9, .inl (y1, 40, .inl u2_1))] := hD
  have hK : va_K (dC, dI) vwCl [(y0, .int), (y1, .int)] s := hK
  subst er1
  have hP9 := hP.sub (ws' := [(h0, .inr (11, [.ref h1, .ref h2, .ref h3, .ref h4, .ref h5, .int 0, .int 0])), (h3, .inr (2, [.ref h6, .ref h7, .ref h2, .int 0, .int 0, .int 0, .int 0, .int 0])), (h7, .inr (3, [.ref h8, .ref h9, .int 1])), (h8, .inl (y0, 40, .inl u2_0)), (h9, .inl (y1, 40, .inl u2_1))]) [0, 1, 2, 3, 4] rfl
  have hD9 := hD.sub (ws' := [(h0, .inr (11, [.ref h1, .ref h2, .ref h3, .ref h4, .ref h5, .int 0, .int 0])), (h3, .inr (2, [.ref h6, .ref h7, .ref h2, .int 0, .int 0, .int 0, .int 0, .int 0])), (h7, .inr (3, [.ref h8, .ref h9, .int 1])), (h8, .inl (y0, 40, .inl u2_0)), (h9, .inl (y1, 40, .inl u2_1))]) [0, 1, 2, 3, 4] (by decide) rfl
  have hK9 := hK.sub (tys' := [(y0, .int), (y1, .int)]) [0, 1] rfl
  exact W.iret (v := 1) hx hb hr (fun t ht hW => ⟨⟨1, (u2_0, u2_1), rfl, ⟨rfl, (fun j => iv_w (iu2_0 j) (by decide) (by decide)), (fun j => iv_w (iu2_1 j) (by decide) (by decide)), trivial⟩, by rw [ht]; exact hP9, va_K.moved hW.alike hK9, hD9⟩, hS.F ht⟩) hS.2.2 dX11_event_9
set_option maxHeartbeats 4000000 in
set_option maxRecDepth 100000 in
theorem cX11_run_1 (l : Launch) (hst : l.stackTraces = false) (dC : Nat → ClassId) (dI : Nat → Nat → Nat) (adK adV : Nat → Nat) (h0 h1 h2 h3 h4 h5 : Nat) (sz : Nat) (x0 x1 : Int32) (ix0 : iv x0 (-2147483648) (-1)) : vx_Met l yX11_run (Cond.code yX11_run cX11_run 4 (some .int) :: lw_G) ({ frames := 6, cells := 1, slots := 6, locals := 82 }) (va_Pc [.ref h0, .int x0, .int x1] (fun U => U.heap.size = sz ∧ va_P (dC, dI) vwCl [(h0, .inr (11, [.ref h1, .ref h2, .ref h3, .ref h4, .ref h5, .int 0, .int 0]))] U.heap ∧ va_K (dC, dI) vwCl [] U ∧ va_D (fun _ => True) [(h0, .inr (11, [.ref h1, .ref h2, .ref h3, .ref h4, .ref h5, .int 0, .int 0]))] ∧ ev adK adV (va_A [(h0, .inr (11, [.ref h1, .ref h2, .ref h3, .ref h4, .ref h5, .int 0, .int 0]))] sz) U U.heap)) (va_Qi (fun (_ : Int32) (_ : Unit) => False) (fun _ _ => True) (va_A [(h0, .inr (11, [.ref h1, .ref h2, .ref h3, .ref h4, .ref h5, .int 0, .int 0]))] sz)) (vx_X (fun (_ : Unit) => True) (fun (E : String) (_ : Unit) (t : State) => E = "java/lang/IllegalArgumentException" ∧ va_P (dC, dI) vwCl [(h0, .inr (11, [.ref h1, .ref h2, .ref h3, .ref h4, .ref h5, .int 0, .int 0]))] t.heap ∧ va_K (dC, dI) vwCl [] t ∧ va_D (va_A [(h0, .inr (11, [.ref h1, .ref h2, .ref h3, .ref h4, .ref h5, .int 0, .int 0]))] sz) [(h0, .inr (11, [.ref h1, .ref h2, .ref h3, .ref h4, .ref h5, .int 0, .int 0]))]) (va_A [(h0, .inr (11, [.ref h1, .ref h2, .ref h3, .ref h4, .ref h5, .int 0, .int 0]))] sz)) 1 6 (va_A [(h0, .inr (11, [.ref h1, .ref h2, .ref h3, .ref h4, .ref h5, .int 0, .int 0]))] sz) := by
  refine vx_ofW (cc := cX11_run) (maxL := 4) (ret := (some .int)) (by decide) rfl ?_
  intro p e s m args below meth c s₁ B hml htab hv
  obtain ⟨rfl, hsz, hP, hK, hD0, hE⟩ := hv
  have hx := B.exec
  have hb := B.bytes
  have hr := B.returns
  have hts0 := atoms_spec (ws := Cond.code yX11_run cX11_run 4 (some .int) :: lw_G) B.pre
  have hG : ∀ w ∈ lw_G, w.before _ s = true := fun w h => hts0 w (List.mem_cons_of_mem _ h)
  have hown : s.vm.findClass RX11 = some m.cls := findClass_of_methodNamed B.named
  have hlocks := B.notSynchronized
  subst hsz
  have hD := hD0.self (sz := s.heap.size)
  generalize hAe : va_A [(h0, .inr (11, [.ref h1, .ref h2, .ref h3, .ref h4, .ref h5, .int 0, .int 0]))] s.heap.size = A at hD hE ⊢
  have hA : ∀ q : Nat, s.heap.size ≤ q → A q := fun q h => by rw [← hAe]; exact Or.inr h
  have hS : va_S A s.heap s.heap [] := va_S.rf
  have hP : va_P (dC, dI) vwCl [(h0, .inr (11, [.ref h1, .ref h2, .ref h3, .ref h4, .ref h5, .int 0, .int 0]))] s.heap := hP
  have hl := lv_entry ([.ref h0, .int x0, .int x1]) (n := 4) (Nat.le_of_ble_eq_true rfl)
  rw [lg_entry_eq]
  generalize (lg_sl ([.ref h0, .int x0, .int x1]) ++ List.replicate (4 - (lg_sl ([.ref h0, .int x0, .int x1])).length) Slot.unset).toArray = ls at hl ⊢
  have hl : lv_has ls 4 [(0, .ref h0), (1, .int x0), (2, .int x1)] := hl
  refine lv_iload_n hx hb dX11_run_0 rfl (lv_at hl 1 rfl) ?_
  refine lv_if_lt (tgt := 11) hx hb dX11_run_1 (by decide) (fun _ => ?_) (fun c => absurd (iv_lt ix0 (by decide : iv 0 0 0) (by decide)) c)
  have hP9 := hP.sub (ws' := [(h0, .inr (11, [.ref h1, .ref h2, .ref h3, .ref h4, .ref h5, .int 0, .int 0]))]) [0] rfl
  have hD9 := hD.sub (ws' := [(h0, .inr (11, [.ref h1, .ref h2, .ref h3, .ref h4, .ref h5, .int 0, .int 0]))]) [0] (by decide) rfl
  have hK9 := hK.sub (tys' := []) [] rfl
  refine vx_throwS (own := RX11) (cls := "java/lang/IllegalArgumentException") (text := evT2) (names := ["java/lang/RuntimeException", "java/lang/Exception"]) hx hb hst hown (by decide) (by decide) (hG _ wd_886) (hG _ wd_23) (evR2 hE) (evA0 hE hG) evG0_89 hE.2.2.2.1 hE.2.2.2.2.1 hS (by rw [hml]; exact hl.1) dX11_run_11 dX11_run_14 dX11_run_15 dX11_run_17 dX11_run_20 (fun x hx9 => (htab x hx9).elim) (by decide) (by decide) (by decide) (by decide) hlocks (fun t hvm9 hz9 hk9 => ⟨(), trivial, ⟨rfl, hP9.kept (fun k q hk => hk9 q.1 (vx_lt hP9 hk)), va_K.moved hvm9 hK9, hD9⟩, Nat.le_trans hS.1 hz9, fun q hq hA9 => (hk9 q (Nat.lt_of_lt_of_le hq hS.1)).trans (hS.2.1 q hq hA9)⟩) hS.2.2 (by decide) (by decide)
set_option maxHeartbeats 4000000 in
set_option maxRecDepth 100000 in
theorem cL_run_1 (l : Launch) (hst : l.stackTraces = false) (dC : Nat → ClassId) (dI : Nat → Nat → Nat) (adK adV : Nat → Nat) (h0 h1 h2 h3 h4 h5 h6 : Nat) (sz : Nat) (x0 x1 : Int32) (ix0 : iv x0 (-2147483648) (-1)) : Met l yL_run (Cond.codeWith yL_run cL_run 5 (some .int) [(0, 10, 13, 13)] :: lw_G) ({ frames := 7, cells := 1, slots := 6, locals := 105 }) (va_Pc [.ref h0, .int x0, .int x1, .ref h1] (fun U => U.heap.size = sz ∧ va_P (dC, dI) vwCl [(h0, .inr (11, [.ref h2, .ref h3, .ref h4, .ref h5, .ref h6, .int 0, .int 0]))] U.heap ∧ va_K (dC, dI) vwCl [] U ∧ va_D (fun _ => True) [(h0, .inr (11, [.ref h2, .ref h3, .ref h4, .ref h5, .ref h6, .int 0, .int 0]))] ∧ ev adK adV (va_A [(h0, .inr (11, [.ref h2, .ref h3, .ref h4, .ref h5, .ref h6, .int 0, .int 0]))] sz) U U.heap)) (va_Qi (fun (r : Int32) (u : Unit) => r = 1 ∧ True) (fun (u : Unit) (t : State) => va_P (dC, dI) vwCl [(h0, .inr (11, [.ref h2, .ref h3, .ref h4, .ref h5, .ref h6, .int 0, .int 0]))] t.heap ∧ va_K (dC, dI) vwCl [] t ∧ va_D (va_A [(h0, .inr (11, [.ref h2, .ref h3, .ref h4, .ref h5, .ref h6, .int 0, .int 0]))] sz) [(h0, .inr (11, [.ref h2, .ref h3, .ref h4, .ref h5, .ref h6, .int 0, .int 0]))]) (va_A [(h0, .inr (11, [.ref h2, .ref h3, .ref h4, .ref h5, .ref h6, .int 0, .int 0]))] sz)) 1 6 (va_A [(h0, .inr (11, [.ref h2, .ref h3, .ref h4, .ref h5, .ref h6, .int 0, .int 0]))] sz) := by
  refine va_MetW (cc := cL_run) (maxL := 5) (ret := (some .int)) (by decide) rfl ?_
  intro p e s m args below meth c s₁ B hml hv
  obtain ⟨rfl, hsz, hP, hK, hD0, hE⟩ := hv
  have hx := B.exec
  have hb := B.bytes
  have hr := B.returns
  have hts0 := atoms_spec (ws := Cond.codeWith yL_run cL_run 5 (some .int) [(0, 10, 13, 13)] :: lw_G) B.pre
  have htab := vx_table (x := x) B (hts0 _ List.mem_cons_self)
  have hG : ∀ w ∈ lw_G, w.before _ s = true := fun w h => hts0 w (List.mem_cons_of_mem _ h)
  have hown : s.vm.findClass RL = some m.cls := findClass_of_methodNamed B.named
  have hlocks := B.notSynchronized
  subst hsz
  have hD := hD0.self (sz := s.heap.size)
  generalize hAe : va_A [(h0, .inr (11, [.ref h2, .ref h3, .ref h4, .ref h5, .ref h6, .int 0, .int 0]))] s.heap.size = A at hD hE ⊢
  have hA : ∀ q : Nat, s.heap.size ≤ q → A q := fun q h => by rw [← hAe]; exact Or.inr h
  have hS : va_S A s.heap s.heap [] := va_S.rf
  have hP : va_P (dC, dI) vwCl [(h0, .inr (11, [.ref h2, .ref h3, .ref h4, .ref h5, .ref h6, .int 0, .int 0]))] s.heap := hP
  have hl := lv_entry ([.ref h0, .int x0, .int x1, .ref h1]) (n := 5) (Nat.le_of_ble_eq_true rfl)
  rw [lg_entry_eq]
  generalize (lg_sl ([.ref h0, .int x0, .int x1, .ref h1]) ++ List.replicate (5 - (lg_sl ([.ref h0, .int x0, .int x1, .ref h1])).length) Slot.unset).toArray = ls at hl ⊢
  have hl : lv_has ls 5 [(0, .ref h0), (1, .int x0), (2, .int x1), (3, .ref h1)] := hl
  refine lv_aload_n hx hb dL_run_0 rfl (lv_at hl 3 rfl) ?_
  refine lv_iconst (v := 0) hx hb dL_run_1 (by decide) ?_
  refine lv_aload_n hx hb dL_run_2 rfl (lv_at hl 0 rfl) ?_
  refine lv_iload_n hx hb dL_run_3 rfl (lv_at hl 1 rfl) ?_
  refine lv_iload_n hx hb dL_run_4 rfl (lv_at hl 2 rfl) ?_
  have hPc := hP.sub (ws' := [(h0, .inr (11, [.ref h2, .ref h3, .ref h4, .ref h5, .ref h6, .int 0, .int 0]))]) [0] rfl
  have hDc := hD.sub (ws' := [(h0, .inr (11, [.ref h2, .ref h3, .ref h4, .ref h5, .ref h6, .int 0, .int 0]))]) [0] (by decide) rfl
  have hKc := hK.sub (tys' := []) [] rfl
  have hFc := va_free (wc := [(h0, .inr (11, [.ref h2, .ref h3, .ref h4, .ref h5, .ref h6, .int 0, .int 0]))]) hD hS hA [0] rfl
  refine vx_calli (vx_runV (As := [.int x0, .int x1]) (rest := [.int 0, .ref h1]) ⟨hx, hb, hml, hown, hG⟩ (cX11_run_1 l hst dC dI adK adV h0 h2 h3 h4 h5 h6 s.heap.size x0 x1 ix0) (cwV 2 hG (gV wd_882 wd_883 wd_884 wd_1 wd_885) rfl rfl rfl (by decide +kernel) ⟨Nat.le_of_ble_eq_true rfl, Nat.le_of_ble_eq_true rfl⟩) ⟨fun a U g mk q => by obtain ⟨q0, q1, qP, qK, qD, qE⟩ := q; exact ⟨q0, q1, qP, va_K.moved (u := U) (U := U.calling g mk a) (Vm.Alike.refl U.vm) qK, qD, qE.same rfl⟩, va_recv hKc hPc (ci := 11) (q0 := 0) rfl rfl, fun U hU hW => ⟨rfl, by rw [hU], by rw [hU]; exact hPc, va_K.moved hW.alike hKc, hDc.weaken (fun _ _ _ _ => trivial), by rw [hU]; exact ((hE.kept hS.2.1).narrow hFc).warm hW⟩⟩ rfl rfl hl.1 rfl (lv_room (Nat.le_of_ble_eq_true rfl)) dL_run_5 ⟨by decide, by decide⟩) hS (fun q _ h => hFc q h) hFc (fun q _ h => hFc q h) (fun E9 ce q1 u9 t H1 locs ht hvm hpx hB hz1 hk1 hS hce hcv hcl => ?_) (fun r u t H1 locs ht hvm hw hB hz1 hk1 hS => hw.elim)
  obtain ⟨rfl, hP1, hK1, hD1⟩ := hB
  rw [ht] at hP1
  have hK1 := va_K.moved hvm.symm hK1
  obtain ⟨hP, hD⟩ := va_join (wr := []) (w1 := [(h0, .inr (11, [.ref h2, .ref h3, .ref h4, .ref h5, .ref h6, .int 0, .int 0]))]) hP hD [0] [] rfl rfl (by decide) (by decide) hk1 hFc hP1 hD1
  have hK := (hK.sub (tys' := []) [] rfl).app hK1
  generalize H1 = H at hP hS hce ⊢
  have hP : va_P (dC, dI) vwCl [(h0, .inr (11, [.ref h2, .ref h3, .ref h4, .ref h5, .ref h6, .int 0, .int 0]))] H := hP
  have hD : va_D A [(h0, .inr (11, [.ref h2, .ref h3, .ref h4, .ref h5, .ref h6, .int 0, .int 0]))] := hD
  have hK : va_K (dC, dI) vwCl [] s := hK
  refine vx_widen (k := 1) (n := 6) (by decide) (by decide) ?_
  refine vx_catch (name := "java/lang/IllegalArgumentException") hown [] { startPc := 0, endPc := 10, handlerPc := 13, catchType := 13 } [] (by rw [htab]; rfl) (fun z hz => nomatch hz) (by decide) (by decide) (hG _ wd_881) (evC0 hE) hce hcv hcl ?_
  refine lv_astore (lv' := [(4, .ref q1), (0, .ref h0), (1, .int x0), (2, .int x1), (3, .ref h1)]) hx hb dL_run_13 hl (by decide) rfl (fun ls hl => ?_)
  refine lv_iconst (v := 1) hx hb dL_run_15 (by decide) ?_
  have hP9 := hP.sub (ws' := [(h0, .inr (11, [.ref h2, .ref h3, .ref h4, .ref h5, .ref h6, .int 0, .int 0]))]) [0] rfl
  have hD9 := hD.sub (ws' := [(h0, .inr (11, [.ref h2, .ref h3, .ref h4, .ref h5, .ref h6, .int 0, .int 0]))]) [0] (by decide) rfl
  have hK9 := hK.sub (tys' := []) [] rfl
  refine W.widen (k := 1) (n := 6) (by decide) (by decide) ?_
  exact W.iret (v := 1) hx hb hr (fun t ht hW => ⟨⟨1, (), rfl, ⟨rfl, trivial⟩, by rw [ht]; exact hP9, va_K.moved hW.alike hK9, hD9⟩, hS.F ht⟩) hS.2.2 dL_run_16
set_option maxHeartbeats 4000000 in
set_option maxRecDepth 100000 in
theorem cX11_run_2 (l : Launch) (hst : l.stackTraces = false) (dC : Nat → ClassId) (dI : Nat → Nat → Nat) (adK adV : Nat → Nat) (h0 h1 h2 h3 h4 h5 : Nat) (sz : Nat) (x0 x1 : Int32) (ix0 : iv x0 5001 2147483647) : vx_Met l yX11_run (Cond.code yX11_run cX11_run 4 (some .int) :: lw_G) ({ frames := 6, cells := 1, slots := 6, locals := 82 }) (va_Pc [.ref h0, .int x0, .int x1] (fun U => U.heap.size = sz ∧ va_P (dC, dI) vwCl [(h0, .inr (11, [.ref h1, .ref h2, .ref h3, .ref h4, .ref h5, .int 0, .int 0]))] U.heap ∧ va_K (dC, dI) vwCl [] U ∧ va_D (fun _ => True) [(h0, .inr (11, [.ref h1, .ref h2, .ref h3, .ref h4, .ref h5, .int 0, .int 0]))] ∧ ev adK adV (va_A [(h0, .inr (11, [.ref h1, .ref h2, .ref h3, .ref h4, .ref h5, .int 0, .int 0]))] sz) U U.heap)) (va_Qi (fun (_ : Int32) (_ : Unit) => False) (fun _ _ => True) (va_A [(h0, .inr (11, [.ref h1, .ref h2, .ref h3, .ref h4, .ref h5, .int 0, .int 0]))] sz)) (vx_X (fun (_ : Unit) => True) (fun (E : String) (_ : Unit) (t : State) => E = "java/lang/IllegalArgumentException" ∧ va_P (dC, dI) vwCl [(h0, .inr (11, [.ref h1, .ref h2, .ref h3, .ref h4, .ref h5, .int 0, .int 0]))] t.heap ∧ va_K (dC, dI) vwCl [] t ∧ va_D (va_A [(h0, .inr (11, [.ref h1, .ref h2, .ref h3, .ref h4, .ref h5, .int 0, .int 0]))] sz) [(h0, .inr (11, [.ref h1, .ref h2, .ref h3, .ref h4, .ref h5, .int 0, .int 0]))]) (va_A [(h0, .inr (11, [.ref h1, .ref h2, .ref h3, .ref h4, .ref h5, .int 0, .int 0]))] sz)) 1 6 (va_A [(h0, .inr (11, [.ref h1, .ref h2, .ref h3, .ref h4, .ref h5, .int 0, .int 0]))] sz) := by
  refine vx_ofW (cc := cX11_run) (maxL := 4) (ret := (some .int)) (by decide) rfl ?_
  intro p e s m args below meth c s₁ B hml htab hv
  obtain ⟨rfl, hsz, hP, hK, hD0, hE⟩ := hv
  have hx := B.exec
  have hb := B.bytes
  have hr := B.returns
  have hts0 := atoms_spec (ws := Cond.code yX11_run cX11_run 4 (some .int) :: lw_G) B.pre
  have hG : ∀ w ∈ lw_G, w.before _ s = true := fun w h => hts0 w (List.mem_cons_of_mem _ h)
  have hown : s.vm.findClass RX11 = some m.cls := findClass_of_methodNamed B.named
  have hlocks := B.notSynchronized
  subst hsz
  have hD := hD0.self (sz := s.heap.size)
  generalize hAe : va_A [(h0, .inr (11, [.ref h1, .ref h2, .ref h3, .ref h4, .ref h5, .int 0, .int 0]))] s.heap.size = A at hD hE ⊢
  have hA : ∀ q : Nat, s.heap.size ≤ q → A q := fun q h => by rw [← hAe]; exact Or.inr h
  have hS : va_S A s.heap s.heap [] := va_S.rf
  have hP : va_P (dC, dI) vwCl [(h0, .inr (11, [.ref h1, .ref h2, .ref h3, .ref h4, .ref h5, .int 0, .int 0]))] s.heap := hP
  have hl := lv_entry ([.ref h0, .int x0, .int x1]) (n := 4) (Nat.le_of_ble_eq_true rfl)
  rw [lg_entry_eq]
  generalize (lg_sl ([.ref h0, .int x0, .int x1]) ++ List.replicate (4 - (lg_sl ([.ref h0, .int x0, .int x1])).length) Slot.unset).toArray = ls at hl ⊢
  have hl : lv_has ls 4 [(0, .ref h0), (1, .int x0), (2, .int x1)] := hl
  refine lv_iload_n hx hb dX11_run_0 rfl (lv_at hl 1 rfl) ?_
  refine lv_if_lt (tgt := 11) hx hb dX11_run_1 (by decide) (fun c => absurd c (iv_nlt ix0 (by decide : iv 0 0 0) (by decide))) (fun _ => ?_)
  refine lv_iload_n hx hb dX11_run_4 rfl (lv_at hl 1 rfl) ?_
  refine lv_sipush (v := 5000) hx hb dX11_run_5 (by decide) ?_
  refine lv_icmp_le (tgt := 21) hx hb dX11_run_8 (by decide) (fun c => absurd c (iv_nle ix0 (by decide : iv 5000 5000 5000) (by decide))) (fun _ => ?_)
  have hP9 := hP.sub (ws' := [(h0, .inr (11, [.ref h1, .ref h2, .ref h3, .ref h4, .ref h5, .int 0, .int 0]))]) [0] rfl
  have hD9 := hD.sub (ws' := [(h0, .inr (11, [.ref h1, .ref h2, .ref h3, .ref h4, .ref h5, .int 0, .int 0]))]) [0] (by decide) rfl
  have hK9 := hK.sub (tys' := []) [] rfl
  refine vx_throwS (own := RX11) (cls := "java/lang/IllegalArgumentException") (text := evT2) (names := ["java/lang/RuntimeException", "java/lang/Exception"]) hx hb hst hown (by decide) (by decide) (hG _ wd_886) (hG _ wd_23) (evR2 hE) (evA0 hE hG) evG0_89 hE.2.2.2.1 hE.2.2.2.2.1 hS (by rw [hml]; exact hl.1) dX11_run_11 dX11_run_14 dX11_run_15 dX11_run_17 dX11_run_20 (fun x hx9 => (htab x hx9).elim) (by decide) (by decide) (by decide) (by decide) hlocks (fun t hvm9 hz9 hk9 => ⟨(), trivial, ⟨rfl, hP9.kept (fun k q hk => hk9 q.1 (vx_lt hP9 hk)), va_K.moved hvm9 hK9, hD9⟩, Nat.le_trans hS.1 hz9, fun q hq hA9 => (hk9 q (Nat.lt_of_lt_of_le hq hS.1)).trans (hS.2.1 q hq hA9)⟩) hS.2.2 (by decide) (by decide)
set_option maxHeartbeats 4000000 in
set_option maxRecDepth 100000 in
theorem cL_run_2 (l : Launch) (hst : l.stackTraces = false) (dC : Nat → ClassId) (dI : Nat → Nat → Nat) (adK adV : Nat → Nat) (h0 h1 h2 h3 h4 h5 h6 : Nat) (sz : Nat) (x0 x1 : Int32) (ix0 : iv x0 5001 2147483647) : Met l yL_run (Cond.codeWith yL_run cL_run 5 (some .int) [(0, 10, 13, 13)] :: lw_G) ({ frames := 7, cells := 1, slots := 6, locals := 105 }) (va_Pc [.ref h0, .int x0, .int x1, .ref h1] (fun U => U.heap.size = sz ∧ va_P (dC, dI) vwCl [(h0, .inr (11, [.ref h2, .ref h3, .ref h4, .ref h5, .ref h6, .int 0, .int 0]))] U.heap ∧ va_K (dC, dI) vwCl [] U ∧ va_D (fun _ => True) [(h0, .inr (11, [.ref h2, .ref h3, .ref h4, .ref h5, .ref h6, .int 0, .int 0]))] ∧ ev adK adV (va_A [(h0, .inr (11, [.ref h2, .ref h3, .ref h4, .ref h5, .ref h6, .int 0, .int 0]))] sz) U U.heap)) (va_Qi (fun (r : Int32) (u : Unit) => r = 1 ∧ True) (fun (u : Unit) (t : State) => va_P (dC, dI) vwCl [(h0, .inr (11, [.ref h2, .ref h3, .ref h4, .ref h5, .ref h6, .int 0, .int 0]))] t.heap ∧ va_K (dC, dI) vwCl [] t ∧ va_D (va_A [(h0, .inr (11, [.ref h2, .ref h3, .ref h4, .ref h5, .ref h6, .int 0, .int 0]))] sz) [(h0, .inr (11, [.ref h2, .ref h3, .ref h4, .ref h5, .ref h6, .int 0, .int 0]))]) (va_A [(h0, .inr (11, [.ref h2, .ref h3, .ref h4, .ref h5, .ref h6, .int 0, .int 0]))] sz)) 1 6 (va_A [(h0, .inr (11, [.ref h2, .ref h3, .ref h4, .ref h5, .ref h6, .int 0, .int 0]))] sz) := by
  refine va_MetW (cc := cL_run) (maxL := 5) (ret := (some .int)) (by decide) rfl ?_
  intro p e s m args below meth c s₁ B hml hv
  obtain ⟨rfl, hsz, hP, hK, hD0, hE⟩ := hv
  have hx := B.exec
  have hb := B.bytes
  have hr := B.returns
  have hts0 := atoms_spec (ws := Cond.codeWith yL_run cL_run 5 (some .int) [(0, 10, 13, 13)] :: lw_G) B.pre
  have htab := vx_table (x := x) B (hts0 _ List.mem_cons_self)
  have hG : ∀ w ∈ lw_G, w.before _ s = true := fun w h => hts0 w (List.mem_cons_of_mem _ h)
  have hown : s.vm.findClass RL = some m.cls := findClass_of_methodNamed B.named
  have hlocks := B.notSynchronized
  subst hsz
  have hD := hD0.self (sz := s.heap.size)
  generalize hAe : va_A [(h0, .inr (11, [.ref h2, .ref h3, .ref h4, .ref h5, .ref h6, .int 0, .int 0]))] s.heap.size = A at hD hE ⊢
  have hA : ∀ q : Nat, s.heap.size ≤ q → A q := fun q h => by rw [← hAe]; exact Or.inr h
  have hS : va_S A s.heap s.heap [] := va_S.rf
  have hP : va_P (dC, dI) vwCl [(h0, .inr (11, [.ref h2, .ref h3, .ref h4, .ref h5, .ref h6, .int 0, .int 0]))] s.heap := hP
  have hl := lv_entry ([.ref h0, .int x0, .int x1, .ref h1]) (n := 5) (Nat.le_of_ble_eq_true rfl)
  rw [lg_entry_eq]
  generalize (lg_sl ([.ref h0, .int x0, .int x1, .ref h1]) ++ List.replicate (5 - (lg_sl ([.ref h0, .int x0, .int x1, .ref h1])).length) Slot.unset).toArray = ls at hl ⊢
  have hl : lv_has ls 5 [(0, .ref h0), (1, .int x0), (2, .int x1), (3, .ref h1)] := hl
  refine lv_aload_n hx hb dL_run_0 rfl (lv_at hl 3 rfl) ?_
  refine lv_iconst (v := 0) hx hb dL_run_1 (by decide) ?_
  refine lv_aload_n hx hb dL_run_2 rfl (lv_at hl 0 rfl) ?_
  refine lv_iload_n hx hb dL_run_3 rfl (lv_at hl 1 rfl) ?_
  refine lv_iload_n hx hb dL_run_4 rfl (lv_at hl 2 rfl) ?_
  have hPc := hP.sub (ws' := [(h0, .inr (11, [.ref h2, .ref h3, .ref h4, .ref h5, .ref h6, .int 0, .int 0]))]) [0] rfl
  have hDc := hD.sub (ws' := [(h0, .inr (11, [.ref h2, .ref h3, .ref h4, .ref h5, .ref h6, .int 0, .int 0]))]) [0] (by decide) rfl
  have hKc := hK.sub (tys' := []) [] rfl
  have hFc := va_free (wc := [(h0, .inr (11, [.ref h2, .ref h3, .ref h4, .ref h5, .ref h6, .int 0, .int 0]))]) hD hS hA [0] rfl
  refine vx_calli (vx_runV (As := [.int x0, .int x1]) (rest := [.int 0, .ref h1]) ⟨hx, hb, hml, hown, hG⟩ (cX11_run_2 l hst dC dI adK adV h0 h2 h3 h4 h5 h6 s.heap.size x0 x1 ix0) (cwV 2 hG (gV wd_882 wd_883 wd_884 wd_1 wd_885) rfl rfl rfl (by decide +kernel) ⟨Nat.le_of_ble_eq_true rfl, Nat.le_of_ble_eq_true rfl⟩) ⟨fun a U g mk q => by obtain ⟨q0, q1, qP, qK, qD, qE⟩ := q; exact ⟨q0, q1, qP, va_K.moved (u := U) (U := U.calling g mk a) (Vm.Alike.refl U.vm) qK, qD, qE.same rfl⟩, va_recv hKc hPc (ci := 11) (q0 := 0) rfl rfl, fun U hU hW => ⟨rfl, by rw [hU], by rw [hU]; exact hPc, va_K.moved hW.alike hKc, hDc.weaken (fun _ _ _ _ => trivial), by rw [hU]; exact ((hE.kept hS.2.1).narrow hFc).warm hW⟩⟩ rfl rfl hl.1 rfl (lv_room (Nat.le_of_ble_eq_true rfl)) dL_run_5 ⟨by decide, by decide⟩) hS (fun q _ h => hFc q h) hFc (fun q _ h => hFc q h) (fun E9 ce q1 u9 t H1 locs ht hvm hpx hB hz1 hk1 hS hce hcv hcl => ?_) (fun r u t H1 locs ht hvm hw hB hz1 hk1 hS => hw.elim)
  obtain ⟨rfl, hP1, hK1, hD1⟩ := hB
  rw [ht] at hP1
  have hK1 := va_K.moved hvm.symm hK1
  obtain ⟨hP, hD⟩ := va_join (wr := []) (w1 := [(h0, .inr (11, [.ref h2, .ref h3, .ref h4, .ref h5, .ref h6, .int 0, .int 0]))]) hP hD [0] [] rfl rfl (by decide) (by decide) hk1 hFc hP1 hD1
  have hK := (hK.sub (tys' := []) [] rfl).app hK1
  generalize H1 = H at hP hS hce ⊢
  have hP : va_P (dC, dI) vwCl [(h0, .inr (11, [.ref h2, .ref h3, .ref h4, .ref h5, .ref h6, .int 0, .int 0]))] H := hP
  have hD : va_D A [(h0, .inr (11, [.ref h2, .ref h3, .ref h4, .ref h5, .ref h6, .int 0, .int 0]))] := hD
  have hK : va_K (dC, dI) vwCl [] s := hK
  refine vx_widen (k := 1) (n := 6) (by decide) (by decide) ?_
  refine vx_catch (name := "java/lang/IllegalArgumentException") hown [] { startPc := 0, endPc := 10, handlerPc := 13, catchType := 13 } [] (by rw [htab]; rfl) (fun z hz => nomatch hz) (by decide) (by decide) (hG _ wd_881) (evC0 hE) hce hcv hcl ?_
  refine lv_astore (lv' := [(4, .ref q1), (0, .ref h0), (1, .int x0), (2, .int x1), (3, .ref h1)]) hx hb dL_run_13 hl (by decide) rfl (fun ls hl => ?_)
  refine lv_iconst (v := 1) hx hb dL_run_15 (by decide) ?_
  have hP9 := hP.sub (ws' := [(h0, .inr (11, [.ref h2, .ref h3, .ref h4, .ref h5, .ref h6, .int 0, .int 0]))]) [0] rfl
  have hD9 := hD.sub (ws' := [(h0, .inr (11, [.ref h2, .ref h3, .ref h4, .ref h5, .ref h6, .int 0, .int 0]))]) [0] (by decide) rfl
  have hK9 := hK.sub (tys' := []) [] rfl
  refine W.widen (k := 1) (n := 6) (by decide) (by decide) ?_
  exact W.iret (v := 1) hx hb hr (fun t ht hW => ⟨⟨1, (), rfl, ⟨rfl, trivial⟩, by rw [ht]; exact hP9, va_K.moved hW.alike hK9, hD9⟩, hS.F ht⟩) hS.2.2 dL_run_16
set_option maxHeartbeats 4000000 in
set_option maxRecDepth 100000 in
theorem cX1_port_1 (l : Launch) (dC : Nat → ClassId) (dI : Nat → Nat → Nat) (h0 h1 h2 h3 h4 : Nat) (sz : Nat) : Met l yX1_port (Cond.code yX1_port cX1_port 1 (some (.object "NapMachine$Port")) :: lw_G) ({ frames := 0, cells := 0, slots := 0, locals := 0 }) (va_Pc [.ref h0] (fun U => U.heap.size = sz ∧ va_P (dC, dI) vwCl [(h0, .inr (1, [.ref h1, .ref h2, .ref h3, .ref h4]))] U.heap ∧ va_K (dC, dI) vwCl [] U ∧ va_D (fun _ => True) [(h0, .inr (1, [.ref h1, .ref h2, .ref h3, .ref h4]))])) (va_Qr (fun (u : Unit) => True) (fun (u : Unit) (a : Nat) (t : State) => a = h2 ∧ va_P (dC, dI) vwCl [(h0, .inr (1, [.ref h1, .ref h2, .ref h3, .ref h4]))] t.heap ∧ va_K (dC, dI) vwCl [] t ∧ va_D (va_A [(h0, .inr (1, [.ref h1, .ref h2, .ref h3, .ref h4]))] sz) [(h0, .inr (1, [.ref h1, .ref h2, .ref h3, .ref h4]))]) (va_A [(h0, .inr (1, [.ref h1, .ref h2, .ref h3, .ref h4]))] sz)) 0 0 (va_A [(h0, .inr (1, [.ref h1, .ref h2, .ref h3, .ref h4]))] sz) := by
  refine Met.ofW (cc := cX1_port) (maxL := 1) (ret := (some (.object "NapMachine$Port"))) (by decide) rfl ?_
  intro p e s m args below meth c s₁ B hml hv
  obtain ⟨rfl, hsz, hP, hK, hD0⟩ := hv
  have hx := B.exec
  have hb := B.bytes
  have hr := B.returns
  have hts0 := atoms_spec (ws := Cond.code yX1_port cX1_port 1 (some (.object "NapMachine$Port")) :: lw_G) B.pre
  have hG : ∀ w ∈ lw_G, w.before _ s = true := fun w h => hts0 w (List.mem_cons_of_mem _ h)
  have hown : s.vm.findClass RX1 = some m.cls := findClass_of_methodNamed B.named
  have hlocks := B.notSynchronized
  subst hsz
  have hD := hD0.self (sz := s.heap.size)
  generalize hAe : va_A [(h0, .inr (1, [.ref h1, .ref h2, .ref h3, .ref h4]))] s.heap.size = A at hD ⊢
  have hA : ∀ q : Nat, s.heap.size ≤ q → A q := fun q h => by rw [← hAe]; exact Or.inr h
  have hS : va_S A s.heap s.heap [] := va_S.rf
  have hP : va_P (dC, dI) vwCl [(h0, .inr (1, [.ref h1, .ref h2, .ref h3, .ref h4]))] s.heap := hP
  have hl := lv_entry ([.ref h0]) (n := 1) (Nat.le_of_ble_eq_true rfl)
  rw [lg_entry_eq]
  generalize (lg_sl ([.ref h0]) ++ List.replicate (1 - (lg_sl ([.ref h0])).length) Slot.unset).toArray = ls at hl ⊢
  have hl : lv_has ls 1 [(0, .ref h0)] := hl
  refine lv_aload_n hx hb dX1_port_0 rfl (lv_at hl 0 rfl) ?_
  refine va_get (D := (dC, dI)) (ci := 1) (v := .ref h2) (C := RX1) (T := TX1) (N := 4) hx hb hG inGX1 hown hK hP 0 rfl rfl 1 (by decide) (hG _ wd_115) (fun _ h9 => h9) rfl dX1_port_1 ?_
  have hP9 := hP.sub (ws' := [(h0, .inr (1, [.ref h1, .ref h2, .ref h3, .ref h4]))]) [0] rfl
  have hD9 := hD.sub (ws' := [(h0, .inr (1, [.ref h1, .ref h2, .ref h3, .ref h4]))]) [0] (by decide) rfl
  have hK9 := hK.sub (tys' := []) [] rfl
  exact W.aret (v := .ref h2) hx hb hr (Or.inl ⟨_, rfl⟩) (Or.inr ⟨_, rfl⟩) (fun t ht hW => ⟨⟨(), h2, rfl, trivial, rfl, by rw [ht]; exact hP9, va_K.moved hW.alike hK9, hD9⟩, hS.F ht⟩) hS.2.2 dX1_port_4
set_option maxHeartbeats 4000000 in
set_option maxRecDepth 100000 in
theorem cX3_reach_1 (l : Launch) (dC : Nat → ClassId) (dI : Nat → Nat → Nat) (h0 h1 h2 h3 : Nat) (sz : Nat) : Met l yX3_reach (Cond.code yX3_reach cX3_reach 5 none :: lw_G) ({ frames := 0, cells := 0, slots := 0, locals := 0 }) (va_Pc [.ref h0, .int 0, .ref h1] (fun U => U.heap.size = sz ∧ va_P (dC, dI) vwCl [(h0, .inr (3, [.ref h2, .ref h3, .int 0]))] U.heap ∧ va_K (dC, dI) vwCl [] U ∧ va_D (fun _ => True) [(h0, .inr (3, [.ref h2, .ref h3, .int 0]))])) (va_Qv (fun (u : Unit) => True) (fun (u : Unit) (t : State) => va_P (dC, dI) vwCl [(h0, .inr (3, [.ref h2, .ref h3, .int 0]))] t.heap ∧ va_K (dC, dI) vwCl [] t ∧ va_D (va_A [(h0, .inr (3, [.ref h2, .ref h3, .int 0]))] sz) [(h0, .inr (3, [.ref h2, .ref h3, .int 0]))]) (va_A [(h0, .inr (3, [.ref h2, .ref h3, .int 0]))] sz)) 0 0 (va_A [(h0, .inr (3, [.ref h2, .ref h3, .int 0]))] sz) := by
  refine Met.ofW (cc := cX3_reach) (maxL := 5) (ret := none) (by decide) rfl ?_
  intro p e s m args below meth c s₁ B hml hv
  obtain ⟨rfl, hsz, hP, hK, hD0⟩ := hv
  have hx := B.exec
  have hb := B.bytes
  have hr := B.returns
  have hts0 := atoms_spec (ws := Cond.code yX3_reach cX3_reach 5 none :: lw_G) B.pre
  have hG : ∀ w ∈ lw_G, w.before _ s = true := fun w h => hts0 w (List.mem_cons_of_mem _ h)
  have hown : s.vm.findClass RX3 = some m.cls := findClass_of_methodNamed B.named
  have hlocks := B.notSynchronized
  subst hsz
  have hD := hD0.self (sz := s.heap.size)
  generalize hAe : va_A [(h0, .inr (3, [.ref h2, .ref h3, .int 0]))] s.heap.size = A at hD ⊢
  have hA : ∀ q : Nat, s.heap.size ≤ q → A q := fun q h => by rw [← hAe]; exact Or.inr h
  have hS : va_S A s.heap s.heap [] := va_S.rf
  have hP : va_P (dC, dI) vwCl [(h0, .inr (3, [.ref h2, .ref h3, .int 0]))] s.heap := hP
  have hl := lv_entry ([.ref h0, .int 0, .ref h1]) (n := 5) (Nat.le_of_ble_eq_true rfl)
  rw [lg_entry_eq]
  generalize (lg_sl ([.ref h0, .int 0, .ref h1]) ++ List.replicate (5 - (lg_sl ([.ref h0, .int 0, .ref h1])).length) Slot.unset).toArray = ls at hl ⊢
  have hl : lv_has ls 5 [(0, .ref h0), (1, .int 0), (2, .ref h1)] := hl
  refine lv_iconst (v := 0) hx hb dX3_reach_0 (by decide) ?_
  refine lv_istore_n (lv' := [(3, .int 0), (0, .ref h0), (1, .int 0), (2, .ref h1)]) hx hb dX3_reach_1 rfl hl (by decide) rfl (fun ls hl => ?_)
  refine lv_iload_n hx hb dX3_reach_2 rfl (lv_at hl 0 rfl) ?_
  refine lv_aload_n hx hb dX3_reach_3 rfl (lv_at hl 1 rfl) ?_
  refine va_get (D := (dC, dI)) (ci := 3) (v := .int 0) (C := RX3) (T := TX3) (N := 3) hx hb hG inGX3 hown hK hP 0 rfl rfl 2 (by decide) (hG _ wd_141) (fun _ h9 => h9) rfl dX3_reach_4 ?_
  refine lv_icmp_ge (tgt := 36) hx hb dX3_reach_7 (by decide) (fun _ => ?_) (fun c => absurd (by decide) c)
  refine lv_iload_n hx hb dX3_reach_36 rfl (lv_at hl 0 rfl) ?_
  refine lv_if_ne (tgt := 41) hx hb dX3_reach_37 (by decide) (fun c => absurd (by decide) c) (fun _ => ?_)
  have hP9 := hP.sub (ws' := [(h0, .inr (3, [.ref h2, .ref h3, .int 0]))]) [0] rfl
  have hD9 := hD.sub (ws' := [(h0, .inr (3, [.ref h2, .ref h3, .int 0]))]) [0] (by decide) rfl
  have hK9 := hK.sub (tys' := []) [] rfl
  exact W.vret hx hb hr (fun t ht hW => ⟨⟨(), rfl, trivial, by rw [ht]; exact hP9, va_K.moved hW.alike hK9, hD9⟩, hS.F ht⟩) hS.2.2 dX3_reach_40
set_option maxHeartbeats 4000000 in
set_option maxRecDepth 100000 in
theorem cX7_value_1 (l : Launch) (dC : Nat → ClassId) (dI : Nat → Nat → Nat) (h0 : Nat) (sz : Nat) : Met l yX7_value (Cond.code yX7_value cX7_value 2 (some .int) :: lw_G) ({ frames := 0, cells := 0, slots := 0, locals := 0 }) (va_Pc [.ref h0, .int 0] (fun U => U.heap.size = sz ∧ va_P (dC, dI) vwCl [(h0, .inr (7, [.int 0, .int 0, .int 0, .int 0, .int 0]))] U.heap ∧ va_K (dC, dI) vwCl [] U ∧ va_D (fun _ => True) [(h0, .inr (7, [.int 0, .int 0, .int 0, .int 0, .int 0]))])) (va_Qi (fun (r : Int32) (u : Unit) => r = 0 ∧ True) (fun (u : Unit) (t : State) => va_P (dC, dI) vwCl [(h0, .inr (7, [.int 0, .int 0, .int 0, .int 0, .int 0]))] t.heap ∧ va_K (dC, dI) vwCl [] t ∧ va_D (va_A [(h0, .inr (7, [.int 0, .int 0, .int 0, .int 0, .int 0]))] sz) [(h0, .inr (7, [.int 0, .int 0, .int 0, .int 0, .int 0]))]) (va_A [(h0, .inr (7, [.int 0, .int 0, .int 0, .int 0, .int 0]))] sz)) 0 0 (va_A [(h0, .inr (7, [.int 0, .int 0, .int 0, .int 0, .int 0]))] sz) := by
  refine Met.ofW (cc := cX7_value) (maxL := 2) (ret := (some .int)) (by decide) rfl ?_
  intro p e s m args below meth c s₁ B hml hv
  obtain ⟨rfl, hsz, hP, hK, hD0⟩ := hv
  have hx := B.exec
  have hb := B.bytes
  have hr := B.returns
  have hts0 := atoms_spec (ws := Cond.code yX7_value cX7_value 2 (some .int) :: lw_G) B.pre
  have hG : ∀ w ∈ lw_G, w.before _ s = true := fun w h => hts0 w (List.mem_cons_of_mem _ h)
  have hown : s.vm.findClass RX7 = some m.cls := findClass_of_methodNamed B.named
  have hlocks := B.notSynchronized
  subst hsz
  have hD := hD0.self (sz := s.heap.size)
  generalize hAe : va_A [(h0, .inr (7, [.int 0, .int 0, .int 0, .int 0, .int 0]))] s.heap.size = A at hD ⊢
  have hA : ∀ q : Nat, s.heap.size ≤ q → A q := fun q h => by rw [← hAe]; exact Or.inr h
  have hS : va_S A s.heap s.heap [] := va_S.rf
  have hP : va_P (dC, dI) vwCl [(h0, .inr (7, [.int 0, .int 0, .int 0, .int 0, .int 0]))] s.heap := hP
  have hl := lv_entry ([.ref h0, .int 0]) (n := 2) (Nat.le_of_ble_eq_true rfl)
  rw [lg_entry_eq]
  generalize (lg_sl ([.ref h0, .int 0]) ++ List.replicate (2 - (lg_sl ([.ref h0, .int 0])).length) Slot.unset).toArray = ls at hl ⊢
  have hl : lv_has ls 2 [(0, .ref h0), (1, .int 0)] := hl
  refine lv_iload_n hx hb dX7_value_0 rfl (lv_at hl 1 rfl) ?_
  refine lv_tableOut (tgt := 65) hx hb dX7_value_1 (by decide) (by decide) ?_
  refine lv_iconst (v := 0) hx hb dX7_value_65 (by decide) ?_
  have hP9 := hP.sub (ws' := [(h0, .inr (7, [.int 0, .int 0, .int 0, .int 0, .int 0]))]) [0] rfl
  have hD9 := hD.sub (ws' := [(h0, .inr (7, [.int 0, .int 0, .int 0, .int 0, .int 0]))]) [0] (by decide) rfl
  have hK9 := hK.sub (tys' := []) [] rfl
  exact W.iret (v := 0) hx hb hr (fun t ht hW => ⟨⟨0, (), rfl, ⟨rfl, trivial⟩, by rw [ht]; exact hP9, va_K.moved hW.alike hK9, hD9⟩, hS.F ht⟩) hS.2.2 dX7_value_66
set_option maxHeartbeats 4000000 in
set_option maxRecDepth 100000 in
theorem cX7_value_2 (l : Launch) (dC : Nat → ClassId) (dI : Nat → Nat → Nat) (h0 : Nat) (sz : Nat) : Met l yX7_value (Cond.code yX7_value cX7_value 2 (some .int) :: lw_G) ({ frames := 0, cells := 0, slots := 0, locals := 0 }) (va_Pc [.ref h0, .int 1] (fun U => U.heap.size = sz ∧ va_P (dC, dI) vwCl [(h0, .inr (7, [.int 0, .int 0, .int 0, .int 0, .int 0]))] U.heap ∧ va_K (dC, dI) vwCl [] U ∧ va_D (fun _ => True) [(h0, .inr (7, [.int 0, .int 0, .int 0, .int 0, .int 0]))])) (va_Qi (fun (r : Int32) (u : Unit) => r = 0 ∧ True) (fun (u : Unit) (t : State) => va_P (dC, dI) vwCl [(h0, .inr (7, [.int 0, .int 0, .int 0, .int 0, .int 0]))] t.heap ∧ va_K (dC, dI) vwCl [] t ∧ va_D (va_A [(h0, .inr (7, [.int 0, .int 0, .int 0, .int 0, .int 0]))] sz) [(h0, .inr (7, [.int 0, .int 0, .int 0, .int 0, .int 0]))]) (va_A [(h0, .inr (7, [.int 0, .int 0, .int 0, .int 0, .int 0]))] sz)) 0 0 (va_A [(h0, .inr (7, [.int 0, .int 0, .int 0, .int 0, .int 0]))] sz) := by
  refine Met.ofW (cc := cX7_value) (maxL := 2) (ret := (some .int)) (by decide) rfl ?_
  intro p e s m args below meth c s₁ B hml hv
  obtain ⟨rfl, hsz, hP, hK, hD0⟩ := hv
  have hx := B.exec
  have hb := B.bytes
  have hr := B.returns
  have hts0 := atoms_spec (ws := Cond.code yX7_value cX7_value 2 (some .int) :: lw_G) B.pre
  have hG : ∀ w ∈ lw_G, w.before _ s = true := fun w h => hts0 w (List.mem_cons_of_mem _ h)
  have hown : s.vm.findClass RX7 = some m.cls := findClass_of_methodNamed B.named
  have hlocks := B.notSynchronized
  subst hsz
  have hD := hD0.self (sz := s.heap.size)
  generalize hAe : va_A [(h0, .inr (7, [.int 0, .int 0, .int 0, .int 0, .int 0]))] s.heap.size = A at hD ⊢
  have hA : ∀ q : Nat, s.heap.size ≤ q → A q := fun q h => by rw [← hAe]; exact Or.inr h
  have hS : va_S A s.heap s.heap [] := va_S.rf
  have hP : va_P (dC, dI) vwCl [(h0, .inr (7, [.int 0, .int 0, .int 0, .int 0, .int 0]))] s.heap := hP
  have hl := lv_entry ([.ref h0, .int 1]) (n := 2) (Nat.le_of_ble_eq_true rfl)
  rw [lg_entry_eq]
  generalize (lg_sl ([.ref h0, .int 1]) ++ List.replicate (2 - (lg_sl ([.ref h0, .int 1])).length) Slot.unset).toArray = ls at hl ⊢
  have hl : lv_has ls 2 [(0, .ref h0), (1, .int 1)] := hl
  refine lv_iload_n hx hb dX7_value_0 rfl (lv_at hl 1 rfl) ?_
  refine lv_tableOut (tgt := 65) hx hb dX7_value_1 (by decide) (by decide) ?_
  refine lv_iconst (v := 0) hx hb dX7_value_65 (by decide) ?_
  have hP9 := hP.sub (ws' := [(h0, .inr (7, [.int 0, .int 0, .int 0, .int 0, .int 0]))]) [0] rfl
  have hD9 := hD.sub (ws' := [(h0, .inr (7, [.int 0, .int 0, .int 0, .int 0, .int 0]))]) [0] (by decide) rfl
  have hK9 := hK.sub (tys' := []) [] rfl
  exact W.iret (v := 0) hx hb hr (fun t ht hW => ⟨⟨0, (), rfl, ⟨rfl, trivial⟩, by rw [ht]; exact hP9, va_K.moved hW.alike hK9, hD9⟩, hS.F ht⟩) hS.2.2 dX7_value_66
set_option maxHeartbeats 4000000 in
set_option maxRecDepth 100000 in
theorem cX1_thingWord_1 (l : Launch) (dC : Nat → ClassId) (dI : Nat → Nat → Nat) (h0 h1 h2 h3 h4 : Nat) (sz : Nat) : Met l yX1_thingWord (Cond.code yX1_thingWord cX1_thingWord 2 (some .int) :: lw_G) ({ frames := 1, cells := 0, slots := 0, locals := 21 }) (va_Pc [.ref h0, .int 0] (fun U => U.heap.size = sz ∧ va_P (dC, dI) vwCl [(h0, .inr (1, [.ref h1, .ref h2, .ref h3, .ref h4])), (h2, .inr (7, [.int 0, .int 0, .int 0, .int 0, .int 0]))] U.heap ∧ va_K (dC, dI) vwCl [] U ∧ va_D (fun _ => True) [(h0, .inr (1, [.ref h1, .ref h2, .ref h3, .ref h4])), (h2, .inr (7, [.int 0, .int 0, .int 0, .int 0, .int 0]))])) (va_Qi (fun (r : Int32) (u : Unit) => r = 0 ∧ True) (fun (u : Unit) (t : State) => va_P (dC, dI) vwCl [(h0, .inr (1, [.ref h1, .ref h2, .ref h3, .ref h4])), (h2, .inr (7, [.int 0, .int 0, .int 0, .int 0, .int 0]))] t.heap ∧ va_K (dC, dI) vwCl [] t ∧ va_D (va_A [(h0, .inr (1, [.ref h1, .ref h2, .ref h3, .ref h4])), (h2, .inr (7, [.int 0, .int 0, .int 0, .int 0, .int 0]))] sz) [(h0, .inr (1, [.ref h1, .ref h2, .ref h3, .ref h4])), (h2, .inr (7, [.int 0, .int 0, .int 0, .int 0, .int 0]))]) (va_A [(h0, .inr (1, [.ref h1, .ref h2, .ref h3, .ref h4])), (h2, .inr (7, [.int 0, .int 0, .int 0, .int 0, .int 0]))] sz)) 0 0 (va_A [(h0, .inr (1, [.ref h1, .ref h2, .ref h3, .ref h4])), (h2, .inr (7, [.int 0, .int 0, .int 0, .int 0, .int 0]))] sz) := by
  refine Met.ofW (cc := cX1_thingWord) (maxL := 2) (ret := (some .int)) (by decide) rfl ?_
  intro p e s m args below meth c s₁ B hml hv
  obtain ⟨rfl, hsz, hP, hK, hD0⟩ := hv
  have hx := B.exec
  have hb := B.bytes
  have hr := B.returns
  have hts0 := atoms_spec (ws := Cond.code yX1_thingWord cX1_thingWord 2 (some .int) :: lw_G) B.pre
  have hG : ∀ w ∈ lw_G, w.before _ s = true := fun w h => hts0 w (List.mem_cons_of_mem _ h)
  have hown : s.vm.findClass RX1 = some m.cls := findClass_of_methodNamed B.named
  have hlocks := B.notSynchronized
  subst hsz
  have hD := hD0.self (sz := s.heap.size)
  generalize hAe : va_A [(h0, .inr (1, [.ref h1, .ref h2, .ref h3, .ref h4])), (h2, .inr (7, [.int 0, .int 0, .int 0, .int 0, .int 0]))] s.heap.size = A at hD ⊢
  have hA : ∀ q : Nat, s.heap.size ≤ q → A q := fun q h => by rw [← hAe]; exact Or.inr h
  have hS : va_S A s.heap s.heap [] := va_S.rf
  have hP : va_P (dC, dI) vwCl [(h0, .inr (1, [.ref h1, .ref h2, .ref h3, .ref h4])), (h2, .inr (7, [.int 0, .int 0, .int 0, .int 0, .int 0]))] s.heap := hP
  have hl := lv_entry ([.ref h0, .int 0]) (n := 2) (Nat.le_of_ble_eq_true rfl)
  rw [lg_entry_eq]
  generalize (lg_sl ([.ref h0, .int 0]) ++ List.replicate (2 - (lg_sl ([.ref h0, .int 0])).length) Slot.unset).toArray = ls at hl ⊢
  have hl : lv_has ls 2 [(0, .ref h0), (1, .int 0)] := hl
  refine lv_iload_n hx hb dX1_thingWord_0 rfl (lv_at hl 1 rfl) ?_
  refine lv_sipush (v := 288) hx hb dX1_thingWord_1 (by decide) ?_
  refine lv_icmp_ge (tgt := 30) hx hb dX1_thingWord_4 (by decide) (fun c => absurd c (by decide)) (fun _ => ?_)
  refine lv_aload_n hx hb dX1_thingWord_7 rfl (lv_at hl 0 rfl) ?_
  refine va_get (D := (dC, dI)) (ci := 1) (v := .ref h2) (C := RX1) (T := TX1) (N := 4) hx hb hG inGX1 hown hK hP 0 rfl rfl 1 (by decide) (hG _ wd_115) (fun _ h9 => h9) rfl dX1_thingWord_8 ?_
  refine lv_iload_n hx hb dX1_thingWord_11 rfl (lv_at hl 1 rfl) ?_
  have hPc := hP.sub (ws' := [(h2, .inr (7, [.int 0, .int 0, .int 0, .int 0, .int 0]))]) [1] rfl
  have hDc := hD.sub (ws' := [(h2, .inr (7, [.int 0, .int 0, .int 0, .int 0, .int 0]))]) [1] (by decide) rfl
  have hKc := hK.sub (tys' := []) [] rfl
  have hFc := va_free (wc := [(h2, .inr (7, [.int 0, .int 0, .int 0, .int 0, .int 0]))]) hD hS hA [1] rfl
  refine va_calli (va_runV (As := [.int 0]) (rest := []) ⟨hx, hb, hml, hown, hG⟩ (cX7_value_1 l dC dI h2 s.heap.size) (cwV 1 hG (gV wd_724 wd_725 wd_726 wd_3 wd_727) rfl rfl rfl (by decide +kernel) ⟨Nat.le_of_ble_eq_true rfl, Nat.le_of_ble_eq_true rfl⟩) ⟨fun a U g mk q => by obtain ⟨q0, q1, qP, qK, qD⟩ := q; exact ⟨q0, q1, qP, va_K.moved (u := U) (U := U.calling g mk a) (Vm.Alike.refl U.vm) qK, qD⟩, va_recv hKc hPc (ci := 7) (q0 := 0) rfl rfl, fun U hU hW => ⟨rfl, by rw [hU], by rw [hU]; exact hPc, va_K.moved hW.alike hKc, hDc.weaken (fun _ _ _ _ => trivial)⟩⟩ rfl rfl hl.1 rfl (lv_room (Nat.le_of_ble_eq_true rfl)) dX1_thingWord_12 ⟨by decide, by decide⟩) hS (fun q _ h => hFc q h) hFc (fun r1 u2 t H1 locs ht hvm hw hB hz1 hk1 hS => ?_)
  have hw : r1 = 0 ∧ True := hw
  obtain ⟨er1, -⟩ := hw
  obtain ⟨hP1, hK1, hD1⟩ := hB
  rw [ht] at hP1
  have hK1 := va_K.moved hvm.symm hK1
  obtain ⟨hP, hD⟩ := va_join (wr := [(h0, .inr (1, [.ref h1, .ref h2, .ref h3, .ref h4]))]) (w1 := [(h2, .inr (7, [.int 0, .int 0, .int 0, .int 0, .int 0]))]) hP hD [1] [0] rfl rfl (by decide) (by decide) hk1 hFc hP1 hD1
  have hK := (hK.sub (tys' := []) [] rfl).app hK1
  generalize H1 = H at hP hS ⊢
  have hP : va_P (dC, dI) vwCl [(h0, .inr (1, [.ref h1, .ref h2, .ref h3, .ref h4])), (h2, .inr (7, [.int 0, .int 0, .int 0, .int 0, .int 0]))] H := hP
  have hD : va_D A [(h0, .inr (1, [.ref h1, .ref h2, .ref h3, .ref h4])), (h2, .inr (7, [.int 0, .int 0, .int 0, .int 0, .int 0]))] := hD
  have hK : va_K (dC, dI) vwCl [] s := hK
  subst er1
  refine lv_aload_n hx hb dX1_thingWord_15 rfl (lv_at hl 0 rfl) ?_
  refine va_get (D := (dC, dI)) (ci := 1) (v := .ref h2) (C := RX1) (T := TX1) (N := 4) hx hb hG inGX1 hown hK hP 0 rfl rfl 1 (by decide) (hG _ wd_115) (fun _ h9 => h9) rfl dX1_thingWord_16 ?_
  refine lv_iload_n hx hb dX1_thingWord_19 rfl (lv_at hl 1 rfl) ?_
  refine lv_iconst (v := 1) hx hb dX1_thingWord_20 (by decide) ?_
  refine lv_iadd hx hb dX1_thingWord_21 ?_
  refine lv_val (y := 1) (by decide +kernel) ?_
  have hPc := hP.sub (ws' := [(h2, .inr (7, [.int 0, .int 0, .int 0, .int 0, .int 0]))]) [1] rfl
  have hDc := hD.sub (ws' := [(h2, .inr (7, [.int 0, .int 0, .int 0, .int 0, .int 0]))]) [1] (by decide) rfl
  have hKc := hK.sub (tys' := []) [] rfl
  have hFc := va_free (wc := [(h2, .inr (7, [.int 0, .int 0, .int 0, .int 0, .int 0]))]) hD hS hA [1] rfl
  refine va_calli (va_runV (As := [.int 1]) (rest := [.int 0]) ⟨hx, hb, hml, hown, hG⟩ (cX7_value_2 l dC dI h2 H.size) (cwV 1 hG (gV wd_724 wd_725 wd_726 wd_3 wd_727) rfl rfl rfl (by decide +kernel) ⟨Nat.le_of_ble_eq_true rfl, Nat.le_of_ble_eq_true rfl⟩) ⟨fun a U g mk q => by obtain ⟨q0, q1, qP, qK, qD⟩ := q; exact ⟨q0, q1, qP, va_K.moved (u := U) (U := U.calling g mk a) (Vm.Alike.refl U.vm) qK, qD⟩, va_recv hKc hPc (ci := 7) (q0 := 0) rfl rfl, fun U hU hW => ⟨rfl, by rw [hU], by rw [hU]; exact hPc, va_K.moved hW.alike hKc, hDc.weaken (fun _ _ _ _ => trivial)⟩⟩ rfl rfl hl.1 rfl (lv_room (Nat.le_of_ble_eq_true rfl)) dX1_thingWord_22 ⟨by decide, by decide⟩) hS (fun q _ h => hFc q h) hFc (fun r3 u4 t H1 locs ht hvm hw hB hz1 hk1 hS => ?_)
  have hw : r3 = 0 ∧ True := hw
  obtain ⟨er3, -⟩ := hw
  obtain ⟨hP1, hK1, hD1⟩ := hB
  rw [ht] at hP1
  have hK1 := va_K.moved hvm.symm hK1
  obtain ⟨hP, hD⟩ := va_join (wr := [(h0, .inr (1, [.ref h1, .ref h2, .ref h3, .ref h4]))]) (w1 := [(h2, .inr (7, [.int 0, .int 0, .int 0, .int 0, .int 0]))]) hP hD [1] [0] rfl rfl (by decide) (by decide) hk1 hFc hP1 hD1
  have hK := (hK.sub (tys' := []) [] rfl).app hK1
  generalize H1 = H at hP hS ⊢
  have hP : va_P (dC, dI) vwCl [(h0, .inr (1, [.ref h1, .ref h2, .ref h3, .ref h4])), (h2, .inr (7, [.int 0, .int 0, .int 0, .int 0, .int 0]))] H := hP
  have hD : va_D A [(h0, .inr (1, [.ref h1, .ref h2, .ref h3, .ref h4])), (h2, .inr (7, [.int 0, .int 0, .int 0, .int 0, .int 0]))] := hD
  have hK : va_K (dC, dI) vwCl [] s := hK
  subst er3
  refine lv_bipush (v := 8) hx hb dX1_thingWord_25 (by decide) ?_
  refine lv_ishl hx hb dX1_thingWord_27 ?_
  refine lv_val (y := 0) (by decide +kernel) ?_
  refine lv_ior hx hb dX1_thingWord_28 ?_
  refine lv_val (y := 0) (by decide +kernel) ?_
  have hP9 := hP.sub (ws' := [(h0, .inr (1, [.ref h1, .ref h2, .ref h3, .ref h4])), (h2, .inr (7, [.int 0, .int 0, .int 0, .int 0, .int 0]))]) [0, 1] rfl
  have hD9 := hD.sub (ws' := [(h0, .inr (1, [.ref h1, .ref h2, .ref h3, .ref h4])), (h2, .inr (7, [.int 0, .int 0, .int 0, .int 0, .int 0]))]) [0, 1] (by decide) rfl
  have hK9 := hK.sub (tys' := []) [] rfl
  exact W.iret (v := 0) hx hb hr (fun t ht hW => ⟨⟨0, (), rfl, ⟨rfl, trivial⟩, by rw [ht]; exact hP9, va_K.moved hW.alike hK9, hD9⟩, hS.F ht⟩) hS.2.2 dX1_thingWord_29
set_option maxHeartbeats 4000000 in
set_option maxRecDepth 100000 in
theorem cX1_lookWord_2 (l : Launch) (dC : Nat → ClassId) (dI : Nat → Nat → Nat) (h0 h1 h2 h3 h4 : Nat) (sz : Nat) : Met l yX1_lookWord (Cond.code yX1_lookWord cX1_lookWord 3 (some .int) :: lw_G) ({ frames := 2, cells := 0, slots := 0, locals := 42 }) (va_Pc [.ref h0, .int 0] (fun U => U.heap.size = sz ∧ va_P (dC, dI) vwCl [(h0, .inr (1, [.ref h1, .ref h2, .ref h3, .ref h4])), (h2, .inr (7, [.int 0, .int 0, .int 0, .int 0, .int 0]))] U.heap ∧ va_K (dC, dI) vwCl [] U ∧ va_D (fun _ => True) [(h0, .inr (1, [.ref h1, .ref h2, .ref h3, .ref h4])), (h2, .inr (7, [.int 0, .int 0, .int 0, .int 0, .int 0]))])) (va_Qi (fun (r : Int32) (u : Unit) => r = 0 ∧ True) (fun (u : Unit) (t : State) => va_P (dC, dI) vwCl [(h0, .inr (1, [.ref h1, .ref h2, .ref h3, .ref h4])), (h2, .inr (7, [.int 0, .int 0, .int 0, .int 0, .int 0]))] t.heap ∧ va_K (dC, dI) vwCl [] t ∧ va_D (va_A [(h0, .inr (1, [.ref h1, .ref h2, .ref h3, .ref h4])), (h2, .inr (7, [.int 0, .int 0, .int 0, .int 0, .int 0]))] sz) [(h0, .inr (1, [.ref h1, .ref h2, .ref h3, .ref h4])), (h2, .inr (7, [.int 0, .int 0, .int 0, .int 0, .int 0]))]) (va_A [(h0, .inr (1, [.ref h1, .ref h2, .ref h3, .ref h4])), (h2, .inr (7, [.int 0, .int 0, .int 0, .int 0, .int 0]))] sz)) 0 0 (va_A [(h0, .inr (1, [.ref h1, .ref h2, .ref h3, .ref h4])), (h2, .inr (7, [.int 0, .int 0, .int 0, .int 0, .int 0]))] sz) := by
  refine Met.ofW (cc := cX1_lookWord) (maxL := 3) (ret := (some .int)) (by decide) rfl ?_
  intro p e s m args below meth c s₁ B hml hv
  obtain ⟨rfl, hsz, hP, hK, hD0⟩ := hv
  have hx := B.exec
  have hb := B.bytes
  have hr := B.returns
  have hts0 := atoms_spec (ws := Cond.code yX1_lookWord cX1_lookWord 3 (some .int) :: lw_G) B.pre
  have hG : ∀ w ∈ lw_G, w.before _ s = true := fun w h => hts0 w (List.mem_cons_of_mem _ h)
  have hown : s.vm.findClass RX1 = some m.cls := findClass_of_methodNamed B.named
  have hlocks := B.notSynchronized
  subst hsz
  have hD := hD0.self (sz := s.heap.size)
  generalize hAe : va_A [(h0, .inr (1, [.ref h1, .ref h2, .ref h3, .ref h4])), (h2, .inr (7, [.int 0, .int 0, .int 0, .int 0, .int 0]))] s.heap.size = A at hD ⊢
  have hA : ∀ q : Nat, s.heap.size ≤ q → A q := fun q h => by rw [← hAe]; exact Or.inr h
  have hS : va_S A s.heap s.heap [] := va_S.rf
  have hP : va_P (dC, dI) vwCl [(h0, .inr (1, [.ref h1, .ref h2, .ref h3, .ref h4])), (h2, .inr (7, [.int 0, .int 0, .int 0, .int 0, .int 0]))] s.heap := hP
  have hl := lv_entry ([.ref h0, .int 0]) (n := 3) (Nat.le_of_ble_eq_true rfl)
  rw [lg_entry_eq]
  generalize (lg_sl ([.ref h0, .int 0]) ++ List.replicate (3 - (lg_sl ([.ref h0, .int 0])).length) Slot.unset).toArray = ls at hl ⊢
  have hl : lv_has ls 3 [(0, .ref h0), (1, .int 0)] := hl
  refine lv_iload_n hx hb dX1_lookWord_0 rfl (lv_at hl 1 rfl) ?_
  refine lv_ldc hx hb hown (hG _ wd_719) dX1_lookWord_1 ?_
  refine lv_iand hx hb dX1_lookWord_3 ?_
  refine lv_val (y := 0) (by decide +kernel) ?_
  refine lv_istore_n (lv' := [(2, .int 0), (0, .ref h0), (1, .int 0)]) hx hb dX1_lookWord_4 rfl hl (by decide) rfl (fun ls hl => ?_)
  refine lv_iload_n hx hb dX1_lookWord_5 rfl (lv_at hl 0 rfl) ?_
  refine lv_sipush (v := 512) hx hb dX1_lookWord_6 (by decide) ?_
  refine lv_icmp_ge (tgt := 20) hx hb dX1_lookWord_9 (by decide) (fun c => absurd c (by decide)) (fun _ => ?_)
  refine lv_aload_n hx hb dX1_lookWord_12 rfl (lv_at hl 1 rfl) ?_
  refine lv_iload_n hx hb dX1_lookWord_13 rfl (lv_at hl 0 rfl) ?_
  have hPc := hP.sub (ws' := [(h0, .inr (1, [.ref h1, .ref h2, .ref h3, .ref h4])), (h2, .inr (7, [.int 0, .int 0, .int 0, .int 0, .int 0]))]) [0, 1] rfl
  have hDc := hD.sub (ws' := [(h0, .inr (1, [.ref h1, .ref h2, .ref h3, .ref h4])), (h2, .inr (7, [.int 0, .int 0, .int 0, .int 0, .int 0]))]) [0, 1] (by decide) rfl
  have hKc := hK.sub (tys' := []) [] rfl
  have hFc := va_free (wc := [(h0, .inr (1, [.ref h1, .ref h2, .ref h3, .ref h4])), (h2, .inr (7, [.int 0, .int 0, .int 0, .int 0, .int 0]))]) hD hS hA [0, 1] rfl
  refine va_calli (va_runV (As := [.int 0]) (rest := []) ⟨hx, hb, hml, hown, hG⟩ (cX1_thingWord_1 l dC dI h0 h1 h2 h3 h4 s.heap.size) (cwV 1 hG (gV wd_720 wd_722 wp_27 wd_2 wd_723) rfl rfl rfl (by decide +kernel) ⟨Nat.le_of_ble_eq_true rfl, Nat.le_of_ble_eq_true rfl⟩) ⟨fun a U g mk q => by obtain ⟨q0, q1, qP, qK, qD⟩ := q; exact ⟨q0, q1, qP, va_K.moved (u := U) (U := U.calling g mk a) (Vm.Alike.refl U.vm) qK, qD⟩, va_recv hKc hPc (ci := 1) (q0 := 0) rfl rfl, fun U hU hW => ⟨rfl, by rw [hU], by rw [hU]; exact hPc, va_K.moved hW.alike hKc, hDc.weaken (fun _ _ _ _ => trivial)⟩⟩ rfl rfl hl.1 rfl (lv_room (Nat.le_of_ble_eq_true rfl)) dX1_lookWord_14 ⟨by decide, by decide⟩) hS (fun q _ h => hFc q h) hFc (fun r1 u2 t H1 locs ht hvm hw hB hz1 hk1 hS => ?_)
  have hw : r1 = 0 ∧ True := hw
  obtain ⟨er1, -⟩ := hw
  obtain ⟨hP1, hK1, hD1⟩ := hB
  rw [ht] at hP1
  have hK1 := va_K.moved hvm.symm hK1
  obtain ⟨hP, hD⟩ := va_join (wr := []) (w1 := [(h0, .inr (1, [.ref h1, .ref h2, .ref h3, .ref h4])), (h2, .inr (7, [.int 0, .int 0, .int 0, .int 0, .int 0]))]) hP hD [0, 1] [] rfl rfl (by decide) (by decide) hk1 hFc hP1 hD1
  have hK := (hK.sub (tys' := []) [] rfl).app hK1
  generalize H1 = H at hP hS ⊢
  have hP : va_P (dC, dI) vwCl [(h0, .inr (1, [.ref h1, .ref h2, .ref h3, .ref h4])), (h2, .inr (7, [.int 0, .int 0, .int 0, .int 0, .int 0]))] H := hP
  have hD : va_D A [(h0, .inr (1, [.ref h1, .ref h2, .ref h3, .ref h4])), (h2, .inr (7, [.int 0, .int 0, .int 0, .int 0, .int 0]))] := hD
  have hK : va_K (dC, dI) vwCl [] s := hK
  subst er1
  refine lv_goto (tgt := 28) hx hb dX1_lookWord_17 (by decide) ?_
  have hP9 := hP.sub (ws' := [(h0, .inr (1, [.ref h1, .ref h2, .ref h3, .ref h4])), (h2, .inr (7, [.int 0, .int 0, .int 0, .int 0, .int 0]))]) [0, 1] rfl
  have hD9 := hD.sub (ws' := [(h0, .inr (1, [.ref h1, .ref h2, .ref h3, .ref h4])), (h2, .inr (7, [.int 0, .int 0, .int 0, .int 0, .int 0]))]) [0, 1] (by decide) rfl
  have hK9 := hK.sub (tys' := []) [] rfl
  exact W.iret (v := 0) hx hb hr (fun t ht hW => ⟨⟨0, (), rfl, ⟨rfl, trivial⟩, by rw [ht]; exact hP9, va_K.moved hW.alike hK9, hD9⟩, hS.F ht⟩) hS.2.2 dX1_lookWord_28
set_option maxHeartbeats 4000000 in
set_option maxRecDepth 100000 in
theorem cX2_isCode_1 (l : Launch) (dC : Nat → ClassId) (dI : Nat → Nat → Nat) (sz : Nat) : Met l yX2_isCode (Cond.code yX2_isCode cX2_isCode 3 (some .boolean) :: lw_G) ({ frames := 0, cells := 0, slots := 0, locals := 0 }) (va_Pc [.int 0] (fun U => U.heap.size = sz ∧ va_P (dC, dI) vwCl [] U.heap ∧ va_K (dC, dI) vwCl [] U ∧ va_D (fun _ => True) [])) (va_Qi (fun (r : Int32) (u : Unit) => r = 0 ∧ True) (fun (u : Unit) (t : State) => va_P (dC, dI) vwCl [] t.heap ∧ va_K (dC, dI) vwCl [] t ∧ va_D (va_A [] sz) []) (va_A [] sz)) 0 0 (va_A [] sz) := by
  refine Met.ofW (cc := cX2_isCode) (maxL := 3) (ret := (some .boolean)) (by decide) rfl ?_
  intro p e s m args below meth c s₁ B hml hv
  obtain ⟨rfl, hsz, hP, hK, hD0⟩ := hv
  have hx := B.exec
  have hb := B.bytes
  have hr := B.returns
  have hts0 := atoms_spec (ws := Cond.code yX2_isCode cX2_isCode 3 (some .boolean) :: lw_G) B.pre
  have hG : ∀ w ∈ lw_G, w.before _ s = true := fun w h => hts0 w (List.mem_cons_of_mem _ h)
  have hown : s.vm.findClass RX2 = some m.cls := findClass_of_methodNamed B.named
  have hlocks := B.notSynchronized
  subst hsz
  have hD := hD0.self (sz := s.heap.size)
  generalize hAe : va_A [] s.heap.size = A at hD ⊢
  have hA : ∀ q : Nat, s.heap.size ≤ q → A q := fun q h => by rw [← hAe]; exact Or.inr h
  have hS : va_S A s.heap s.heap [] := va_S.rf
  have hP : va_P (dC, dI) vwCl [] s.heap := hP
  have hl := lv_entry ([.int 0]) (n := 3) (Nat.le_of_ble_eq_true rfl)
  rw [lg_entry_eq]
  generalize (lg_sl ([.int 0]) ++ List.replicate (3 - (lg_sl ([.int 0])).length) Slot.unset).toArray = ls at hl ⊢
  have hl : lv_has ls 3 [(0, .int 0)] := hl
  refine lv_iload_n hx hb dX2_isCode_0 rfl (lv_at hl 0 rfl) ?_
  refine lv_sipush (v := 8192) hx hb dX2_isCode_1 (by decide) ?_
  refine lv_icmp_lt (tgt := 9) hx hb dX2_isCode_4 (by decide) (fun _ => ?_) (fun c => absurd (by decide) c)
  refine lv_iload_n hx hb dX2_isCode_9 rfl (lv_at hl 0 rfl) ?_
  refine lv_bipush (v := 10) hx hb dX2_isCode_10 (by decide) ?_
  refine lv_ishr hx hb dX2_isCode_12 ?_
  refine lv_val (y := 0) (by decide +kernel) ?_
  refine lv_iconst (v := 4) hx hb dX2_isCode_13 (by decide) ?_
  refine lv_icmp_eq (tgt := 19) hx hb dX2_isCode_14 (by decide) (fun c => absurd c (by decide)) (fun _ => ?_)
  refine lv_iconst (v := 0) hx hb dX2_isCode_17 (by decide) ?_
  have hP9 := hP.sub (ws' := []) [] rfl
  have hD9 := hD.sub (ws' := []) [] (by decide) rfl
  have hK9 := hK.sub (tys' := []) [] rfl
  exact W.zret (v := 0) hx hb hr rfl (fun t ht hW => ⟨⟨0, (), rfl, ⟨rfl, trivial⟩, by rw [ht]; exact hP9, va_K.moved hW.alike hK9, hD9⟩, hS.F ht⟩) hS.2.2 dX2_isCode_18
